/-! the reference: round, says, offer, value, publish, ended, random, about -/
theorem sum_eq {a a2 : Nat} {b : Int32} (ha : a < 2147483648) (h2 : a2 < 2147483648) (e : (a : Int) + b.toInt = a2) : lN a + b.toInt64 = lN a2 := by
  apply Int64.toInt_inj.mp
  rw [sumL ha b, e, pk_lT (by omega)]
theorem sum_inr {a a2 : Nat} {b : Int32} (ha : a < 2147483648) (h2 : a2 < 2147483648) (e : lN a + b.toInt64 = lN a2) : inr a b := by
  have h := congrArg Int64.toInt e
  rw [sumL ha b, pk_lT (by omega)] at h
  unfold inr
  omega
theorem lN_inj {a b : Nat} (ha : a < 2 ^ 63) (hb : b < 2 ^ 63) (h : lN a = lN b) : a = b := by
  have h := congrArg Int64.toInt h
  rw [pk_lT ha, pk_lT hb] at h
  omega
theorem gd_inr {a x y : Nat} {b1 b2 b3 : Int32} (ha : a < 2147483648) (hx : x < 2147483648) (hy : y < 2147483648) (h : gdL (lN a + b1.toInt64) (lN x + b2.toInt64) (lN y + b3.toInt64)) : inr a b1 ∧ inr x b2 ∧ inr y b3 := by
  obtain ⟨a2, x2, y2, e1, e2, e3, g1, g2, g3, g4, g5⟩ := h
  exact ⟨sum_inr ha (by omega) e1, sum_inr hx (by omega) e2, sum_inr hy (by omega) e3⟩
theorem gd_nat {a x y : Nat} (ha : a < 2147483648) (hx : x < 2147483648) (hy : y < 2147483648) (h : gdL (lN a) (lN x) (lN y)) : 1 ≤ a ∧ a < 2147483579 ∧ a ^ 1073741789 % 2147483579 = 1 ∧ x < 1073741789 ∧ y < 1073741789 := by
  obtain ⟨a2, x2, y2, e1, e2, e3, g1, g2, g3, g4, g5⟩ := h
  obtain rfl := lN_inj (by omega) (by omega) e1
  obtain rfl := lN_inj (by omega) (by omega) e2
  obtain rfl := lN_inj (by omega) (by omega) e3
  exact ⟨g1, g2, g3, g4, g5⟩
def mnR (x : Int32) : Nat → Int32
  | 0 => nI 0
  | q + 1 => mnR x q + (x >>> (nI (q + 1) &&& 31) &&& nI 1)
theorem mnR_nat {b : Nat} (hb : b < 2 ^ 31) : ∀ q, q ≤ 16 → mnR (nI b) q = nI (cnt (tb b) q) := by
  intro q
  induction q with
  | zero => intro _; rfl
  | succ q ih =>
    intro hq
    show mnR (nI b) q + _ = nI (cnt (tb b) q + tb b (q + 1))
    rw [ih (by omega), hb_val hb (by omega), nI_add]
def abF (dl ou : Nat → Nat) (qu j k : Nat) : Nat := if j = 2 then dl k else if j = 4 then ou k else if j = 5 then tb qu k else 0

set_option maxHeartbeats 4000000 in
set_option maxRecDepth 100000 in
theorem k5_round_loop {l : Launch} {p : Program} {e : Env} {s : State} {m : MethodId} {args : Array Value} {below : List Frame} {meth : Method} {c : Code} {Q : State → Prop} {D : va_G} {cI cJ cZ cD : ClassId} {ad : Nat → Nat} {A : Nat → Prop} {H0 : Heap} {w : Nat → va_E} (hC : CallFix p m c cX5_round 4 s args wsL_law RX5) (hA : ∀ q, H0.size ≤ q → A q) (cd : Int32) (n t cl qu en kp : Nat) (hs : Int64) (hn : n ≤ 16) (hkp : kp < 2 ^ 17) (wt : Int32) (hM : w 77 = .inr (4, [.int cd, .int (nI n), .int (nI t), .int (nI cl), .ref (ad 78), .ref (ad 79), .ref (ad 80), .ref (ad 81), .ref (ad 82), .ref (ad 83), .int (nI qu), .ref (ad 84), .ref (ad 85), .ref (ad 86), .int (nI en), .int (nI kp), .ref (ad 87), .long hs]))
    (kx : ∀  (ls : Array Slot) (H : Heap) (locs : List Loc),  WW D vwCl (tyL cI cJ cZ cD) A H0 ad 89 w s H locs → lv_has ls 4 [(0, .ref (ad 77)), (1, .int wt), (2, .int (nI (cnt (tb kp) n)))] → W p l e ({ frames := 3, cells := 0, slots := 0, locals := 88 }) s m args below meth c H locs 0 0 Q (F0 m 63 ls [])) :
    ∀ (j q : Nat)  (ls : Array Slot) (H : Heap) (locs : List Loc), q + j = n →  WW D vwCl (tyL cI cJ cZ cD) A H0 ad 89 w s H locs → lv_has ls 4 [(0, .ref (ad 77)), (1, .int wt), (2, .int (nI (cnt (tb kp) q))), (3, .int (nI (q + 1)))] → W p l e ({ frames := 3, cells := 0, slots := 0, locals := 88 }) s m args below meth c H locs 0 0 Q (F0 m 38 ls []) := by
  obtain ⟨hx, hb, hml, hown, hts⟩ := id hC
  intro j
  induction j with
  | zero =>
    intro q  ls H locs hq  hw hl
    obtain rfl : n = q := by omega
    have hl : lv_has ls 4 [(0, .ref (ad 77)), (1, .int wt), (2, .int (nI (cnt (tb kp) n))), (3, .int (nI (n + 1)))] := hl
    refine lv_iload_n hx hb dX5_round_38 rfl (lv_at hl 3 rfl) ?_
    refine lv_aload_n hx hb dX5_round_39 rfl (lv_at hl 0 rfl) ?_
    refine gf_X5_59 hx hb hts hown hw (by decide) hM rfl dX5_round_40 ?_
    refine lv_icmp_gt (tgt := 63) hx hb dX5_round_43 (by decide) (fun hc => ?_) (fun hc => absurd (nI_lt (by omega) (by omega)) hc)
    exact kx  ls H locs  hw (lv_sub hl [0, 1, 2] rfl)
  | succ j ih =>
    intro q  ls H locs hq  hw hl
    refine lv_iload_n hx hb dX5_round_38 rfl (lv_at hl 3 rfl) ?_
    refine lv_aload_n hx hb dX5_round_39 rfl (lv_at hl 0 rfl) ?_
    refine gf_X5_59 hx hb hts hown hw (by decide) hM rfl dX5_round_40 ?_
    refine lv_icmp_gt (tgt := 63) hx hb dX5_round_43 (by decide) (fun hc => absurd hc (nI_nlt (by omega) (by omega))) (fun hc => ?_)
    have hcl := cnt_le (f := tb kp) (b := 1) (fun k => by have := tb_lt kp k; omega) q
    have htb := tb_lt kp (q + 1)
    refine lv_iload_n hx hb dX5_round_46 rfl (lv_at hl 2 rfl) ?_
    refine lv_aload_n hx hb dX5_round_47 rfl (lv_at hl 0 rfl) ?_
    refine gf_X5_81 hx hb hts hown hw (by decide) hM rfl dX5_round_48 ?_
    refine lv_iload_n hx hb dX5_round_51 rfl (lv_at hl 3 rfl) ?_
    refine lv_ishr hx hb dX5_round_52 ?_
    refine lv_iconst (v := nI 1) hx hb dX5_round_53 (by decide) ?_
    refine lv_iand hx hb dX5_round_54 ?_
    rw [hb_val (by omega) (by omega)]
    refine t_iadd hx hb dX5_round_55 (v := nI (cnt (tb kp) q + (tb kp (q + 1)))) (nI_add _ _) ?_
    refine lv_istore_n (lv' := [(2, .int (nI (cnt (tb kp) q + (tb kp (q + 1))))), (0, .ref (ad 77)), (1, .int wt), (3, .int (nI (q + 1)))]) hx hb dX5_round_56 rfl hl (by decide) rfl (fun ls hl => ?_)
    refine lv_iinc (v := nI (q + 1 + 1)) (lv' := [(3, .int (nI (q + 1 + 1))), (2, .int (nI (cnt (tb kp) q + (tb kp (q + 1))))), (0, .ref (ad 77)), (1, .int wt)]) hx hb dX5_round_57 hl (k := 3) rfl (nI_1 (q + 1)) (by decide) rfl (fun ls hl => ?_)
    refine lv_goto (tgt := 38) hx hb dX5_round_60 (by decide) ?_
    refine ih (q + 1)  ls H locs (by omega)  hw (lv_sub hl [2, 3, 1, 0] rfl)
set_option maxHeartbeats 4000000 in
set_option maxRecDepth 100000 in
theorem m_round0 (l : Launch) {D : va_G} {cI cJ cZ cD : ClassId} {ad : Nat → Nat} {w : Nat → va_E} {sz : Nat} (n t cl qu en kp : Nat) (dl ou cp ks pt : Nat → Nat) (co sh : Nat → Nat → Nat) (vs : Nat → Int64) (cd : Int32) (hok : OkS n t cl qu en kp dl ou cp ks pt co sh) (hRM : RM ad cJ cZ w cd n t cl qu en kp dl ou cp ks pt co sh vs) (hcl0 : cl = 1)  : MW l yX5_round (.code yX5_round cX5_round 4 (some .int)) ({ frames := 3, cells := 0, slots := 0, locals := 88 }) [.ref (ad 77), .int (nI 0)] D (tyL cI cJ cZ cD) ad 89 w sz (some (.int (nI (en + 1)))) (fun u => (∀ z, z < 77 ∨ 87 < z → u z = w z) ∧ RM ad cJ cZ u (nI 0) n t 1 qu en kp dl ou cp ks pt co sh vs) := by
  refine MW.of (by decide) (Nat.le_of_ble_eq_true rfl) ?_
  intro p e s m below meth c ls hC hr hlocks hl hw
  obtain ⟨hx, hb, hml, hown, hts⟩ := id hC
  have hA : ∀ q, s.heap.size ≤ q → xA ad 89 s.heap.size q := fun q h => Or.inr h
  have hl : lv_has ls 4 [(0, .ref (ad 77)), (1, .int (nI 0))] := hl
  obtain ⟨⟨hs, hM⟩, ⟨dz, oz, hDz, hOz, hdo⟩, ⟨cf, mf, sf, hCf, hMf, hSf, hcs⟩, ⟨xf, hXf, hxx⟩, ⟨kyf, swf, hKy, hSw, hks⟩, ⟨vlf, hVl, hvl⟩, ⟨plf, hPl, hpl⟩⟩ := id hRM
  obtain ⟨⟨hn, ht, hcl, hqu, hen, hkp⟩, hle, ⟨hqb, hkb, hcb⟩, hvals, hclv, hptl, ⟨hz1, hz2, hz3⟩⟩ := id hok
  subst hcl0
  refine lv_aload_n hx hb dX5_round_0 rfl (lv_at hl 0 rfl) ?_
  refine lv_aload_n hx hb dX5_round_1 rfl (lv_at hl 0 rfl) ?_
  refine gf_X5_71 hx hb hts hown hw (by decide) hM rfl dX5_round_2 ?_
  refine lv_if_ne (tgt := 12) hx hb dX5_round_5 (by decide) (fun q_1 => ?_) (fun q_1 => absurd q_1 (by decide))
  refine lv_iload_n hx hb dX5_round_12 rfl (lv_at hl 1 rfl) ?_
  refine lv_if_lt (tgt := 21) hx hb dX5_round_13 (by decide) (fun q_2 => absurd q_2 (by decide)) (fun q_2 => ?_)
  refine lv_iload_n hx hb dX5_round_16 rfl (lv_at hl 1 rfl) ?_
  refine lv_iconst (v := nI 3) hx hb dX5_round_17 (by decide) ?_
  refine lv_icmp_le (tgt := 25) hx hb dX5_round_18 (by decide) (fun q_3 => ?_) (fun q_3 => absurd (by decide) q_3)
  refine lv_iconst (v := nI 0) hx hb dX5_round_25 (by decide) ?_
  refine x_callW1 (As := [.int (nI 0)]) (rest := []) hC vf_X5_64 hw hA (by decide) hM rfl rfl (k5_refuses0 l _ _ _ _ _ _ _ _ hM) ⟨rfl, rfl, Nat.le_of_ble_eq_true rfl, Nat.le_of_ble_eq_true rfl⟩ hl.1 (Nat.le_of_ble_eq_true rfl) dX5_round_26 ⟨Nat.zero_le _, Nat.zero_le _⟩ rfl (fun w_5 H locs hu_4 hw => ?_)
  have hc_6 : w_5 77 = .inr (4, [.int (nI 0), .int (nI n), .int (nI t), .int (nI 1), .ref (ad 78), .ref (ad 79), .ref (ad 80), .ref (ad 81), .ref (ad 82), .ref (ad 83), .int (nI qu), .ref (ad 84), .ref (ad 85), .ref (ad 86), .int (nI en), .int (nI kp), .ref (ad 87), .long hs]) := by rw [hu_4]; exact va_up_self _ _ _
  have hc_7 : w_5 78 = .inl (cZ, 17, .inl dz) := by rw [hu_4, va_up_ne _ _ (by decide)]; exact hDz
  have hc_8 : w_5 79 = .inl (cZ, 17, .inl oz) := by rw [hu_4, va_up_ne _ _ (by decide)]; exact hOz
  have hc_9 : w_5 80 = .inl (cJ, 289, .inr (.inl cf)) := by rw [hu_4, va_up_ne _ _ (by decide)]; exact hCf
  have hc_10 : w_5 81 = .inl (cJ, 289, .inr (.inl mf)) := by rw [hu_4, va_up_ne _ _ (by decide)]; exact hMf
  have hc_11 : w_5 82 = .inl (cJ, 289, .inr (.inl sf)) := by rw [hu_4, va_up_ne _ _ (by decide)]; exact hSf
  have hc_12 : w_5 83 = .inl (cZ, 289, .inl xf) := by rw [hu_4, va_up_ne _ _ (by decide)]; exact hXf
  have hc_13 : w_5 84 = .inl (cJ, 17, .inr (.inl kyf)) := by rw [hu_4, va_up_ne _ _ (by decide)]; exact hKy
  have hc_14 : w_5 85 = .inl (cJ, 17, .inr (.inl swf)) := by rw [hu_4, va_up_ne _ _ (by decide)]; exact hSw
  have hc_15 : w_5 86 = .inl (cJ, 301, .inr (.inl vlf)) := by rw [hu_4, va_up_ne _ _ (by decide)]; exact hVl
  have hc_16 : w_5 87 = .inl (cJ, 17, .inr (.inl plf)) := by rw [hu_4, va_up_ne _ _ (by decide)]; exact hPl
  refine lv_if_eq (tgt := 34) hx hb dX5_round_29 (by decide) (fun q_17 => ?_) (fun q_17 => absurd (by decide) q_17)
  refine lv_iconst (v := nI 0) hx hb dX5_round_34 (by decide) ?_
  refine lv_istore_n (lv' := [(2, .int (nI 0)), (0, .ref (ad 77)), (1, .int (nI 0))]) hx hb dX5_round_35 rfl hl (by decide) rfl (fun ls hl => ?_)
  refine lv_iconst (v := nI 1) hx hb dX5_round_36 (by decide) ?_
  refine lv_istore_n (lv' := [(3, .int (nI 1)), (2, .int (nI 0)), (0, .ref (ad 77)), (1, .int (nI 0))]) hx hb dX5_round_37 rfl hl (by decide) rfl (fun ls hl => ?_)
  refine k5_round_loop hC hA (nI 0) n t 1 qu en kp hs hn hkp (nI 0) hc_6 (fun ls H locs hw hl => ?_) n 0 ls H locs (by omega) hw (lv_sub hl [2, 3, 1, 0] rfl)
  have hl : lv_has ls 4 [(0, .ref (ad 77)), (1, .int (nI 0)), (2, .int (nI (cnt (tb kp) n)))] := hl
  refine lv_iload_n hx hb dX5_round_63 rfl (lv_at hl 1 rfl) ?_
  refine lv_if_ne (tgt := 76) hx hb dX5_round_64 (by decide) (fun q_18 => absurd (by decide) q_18) (fun q_18 => ?_)
  refine lv_aload_n hx hb dX5_round_67 rfl (lv_at hl 0 rfl) ?_
  refine gf_X5_78 hx hb hts hown hw (by decide) hc_6 rfl dX5_round_68 ?_
  refine lv_iconst (v := nI 1) hx hb dX5_round_71 (by decide) ?_
  refine t_iadd hx hb dX5_round_72 (v := nI (en + 1)) (nI_add _ _) ?_
  refine lv_goto (tgt := 102) hx hb dX5_round_73 (by decide) ?_
  have hfr : ∀ z, z ≠ 77 → w_5 z = w z := fun z hhfr0 => by rw [hu_4, va_up_ne _ _ hhfr0]
  exact x_wretI hx hb hr hlocks hw ⟨fun z hz => hfr z (by omega), RM.set77 hRM hfr hc_6⟩ dX5_round_102
set_option maxHeartbeats 4000000 in
set_option maxRecDepth 100000 in
theorem m_round1 (l : Launch) {D : va_G} {cI cJ cZ cD : ClassId} {ad : Nat → Nat} {w : Nat → va_E} {sz : Nat} (n t cl qu en kp : Nat) (dl ou cp ks pt : Nat → Nat) (co sh : Nat → Nat → Nat) (vs : Nat → Int64) (cd : Int32) (hok : OkS n t cl qu en kp dl ou cp ks pt co sh) (hRM : RM ad cJ cZ w cd n t cl qu en kp dl ou cp ks pt co sh vs) (hcl0 : cl = 1)  : MW l yX5_round (.code yX5_round cX5_round 4 (some .int)) ({ frames := 3, cells := 0, slots := 0, locals := 88 }) [.ref (ad 77), .int (nI 1)] D (tyL cI cJ cZ cD) ad 89 w sz (some (.int (nI (basF (msgF (vs en) en))))) (fun u => (∀ z, z < 77 ∨ 87 < z → u z = w z) ∧ RM ad cJ cZ u (nI 0) n t 1 qu en kp dl ou cp ks pt co sh vs) := by
  refine MW.of (by decide) (Nat.le_of_ble_eq_true rfl) ?_
  intro p e s m below meth c ls hC hr hlocks hl hw
  obtain ⟨hx, hb, hml, hown, hts⟩ := id hC
  have hA : ∀ q, s.heap.size ≤ q → xA ad 89 s.heap.size q := fun q h => Or.inr h
  have hl : lv_has ls 4 [(0, .ref (ad 77)), (1, .int (nI 1))] := hl
  obtain ⟨⟨hs, hM⟩, ⟨dz, oz, hDz, hOz, hdo⟩, ⟨cf, mf, sf, hCf, hMf, hSf, hcs⟩, ⟨xf, hXf, hxx⟩, ⟨kyf, swf, hKy, hSw, hks⟩, ⟨vlf, hVl, hvl⟩, ⟨plf, hPl, hpl⟩⟩ := id hRM
  obtain ⟨⟨hn, ht, hcl, hqu, hen, hkp⟩, hle, ⟨hqb, hkb, hcb⟩, hvals, hclv, hptl, ⟨hz1, hz2, hz3⟩⟩ := id hok
  subst hcl0
  refine lv_aload_n hx hb dX5_round_0 rfl (lv_at hl 0 rfl) ?_
  refine lv_aload_n hx hb dX5_round_1 rfl (lv_at hl 0 rfl) ?_
  refine gf_X5_71 hx hb hts hown hw (by decide) hM rfl dX5_round_2 ?_
  refine lv_if_ne (tgt := 12) hx hb dX5_round_5 (by decide) (fun q_1 => ?_) (fun q_1 => absurd q_1 (by decide))
  refine lv_iload_n hx hb dX5_round_12 rfl (lv_at hl 1 rfl) ?_
  refine lv_if_lt (tgt := 21) hx hb dX5_round_13 (by decide) (fun q_2 => absurd q_2 (by decide)) (fun q_2 => ?_)
  refine lv_iload_n hx hb dX5_round_16 rfl (lv_at hl 1 rfl) ?_
  refine lv_iconst (v := nI 3) hx hb dX5_round_17 (by decide) ?_
  refine lv_icmp_le (tgt := 25) hx hb dX5_round_18 (by decide) (fun q_3 => ?_) (fun q_3 => absurd (by decide) q_3)
  refine lv_iconst (v := nI 0) hx hb dX5_round_25 (by decide) ?_
  refine x_callW1 (As := [.int (nI 0)]) (rest := []) hC vf_X5_64 hw hA (by decide) hM rfl rfl (k5_refuses0 l _ _ _ _ _ _ _ _ hM) ⟨rfl, rfl, Nat.le_of_ble_eq_true rfl, Nat.le_of_ble_eq_true rfl⟩ hl.1 (Nat.le_of_ble_eq_true rfl) dX5_round_26 ⟨Nat.zero_le _, Nat.zero_le _⟩ rfl (fun w_5 H locs hu_4 hw => ?_)
  have hc_6 : w_5 77 = .inr (4, [.int (nI 0), .int (nI n), .int (nI t), .int (nI 1), .ref (ad 78), .ref (ad 79), .ref (ad 80), .ref (ad 81), .ref (ad 82), .ref (ad 83), .int (nI qu), .ref (ad 84), .ref (ad 85), .ref (ad 86), .int (nI en), .int (nI kp), .ref (ad 87), .long hs]) := by rw [hu_4]; exact va_up_self _ _ _
  have hc_7 : w_5 78 = .inl (cZ, 17, .inl dz) := by rw [hu_4, va_up_ne _ _ (by decide)]; exact hDz
  have hc_8 : w_5 79 = .inl (cZ, 17, .inl oz) := by rw [hu_4, va_up_ne _ _ (by decide)]; exact hOz
  have hc_9 : w_5 80 = .inl (cJ, 289, .inr (.inl cf)) := by rw [hu_4, va_up_ne _ _ (by decide)]; exact hCf
  have hc_10 : w_5 81 = .inl (cJ, 289, .inr (.inl mf)) := by rw [hu_4, va_up_ne _ _ (by decide)]; exact hMf
  have hc_11 : w_5 82 = .inl (cJ, 289, .inr (.inl sf)) := by rw [hu_4, va_up_ne _ _ (by decide)]; exact hSf
  have hc_12 : w_5 83 = .inl (cZ, 289, .inl xf) := by rw [hu_4, va_up_ne _ _ (by decide)]; exact hXf
  have hc_13 : w_5 84 = .inl (cJ, 17, .inr (.inl kyf)) := by rw [hu_4, va_up_ne _ _ (by decide)]; exact hKy
  have hc_14 : w_5 85 = .inl (cJ, 17, .inr (.inl swf)) := by rw [hu_4, va_up_ne _ _ (by decide)]; exact hSw
  have hc_15 : w_5 86 = .inl (cJ, 301, .inr (.inl vlf)) := by rw [hu_4, va_up_ne _ _ (by decide)]; exact hVl
  have hc_16 : w_5 87 = .inl (cJ, 17, .inr (.inl plf)) := by rw [hu_4, va_up_ne _ _ (by decide)]; exact hPl
  refine lv_if_eq (tgt := 34) hx hb dX5_round_29 (by decide) (fun q_17 => ?_) (fun q_17 => absurd (by decide) q_17)
  refine lv_iconst (v := nI 0) hx hb dX5_round_34 (by decide) ?_
  refine lv_istore_n (lv' := [(2, .int (nI 0)), (0, .ref (ad 77)), (1, .int (nI 1))]) hx hb dX5_round_35 rfl hl (by decide) rfl (fun ls hl => ?_)
  refine lv_iconst (v := nI 1) hx hb dX5_round_36 (by decide) ?_
  refine lv_istore_n (lv' := [(3, .int (nI 1)), (2, .int (nI 0)), (0, .ref (ad 77)), (1, .int (nI 1))]) hx hb dX5_round_37 rfl hl (by decide) rfl (fun ls hl => ?_)
  refine k5_round_loop hC hA (nI 0) n t 1 qu en kp hs hn hkp (nI 1) hc_6 (fun ls H locs hw hl => ?_) n 0 ls H locs (by omega) hw (lv_sub hl [2, 3, 1, 0] rfl)
  have hl : lv_has ls 4 [(0, .ref (ad 77)), (1, .int (nI 1)), (2, .int (nI (cnt (tb kp) n)))] := hl
  refine lv_iload_n hx hb dX5_round_63 rfl (lv_at hl 1 rfl) ?_
  refine lv_if_ne (tgt := 76) hx hb dX5_round_64 (by decide) (fun q_18 => ?_) (fun q_18 => absurd q_18 (by decide))
  refine lv_iload_n hx hb dX5_round_76 rfl (lv_at hl 1 rfl) ?_
  refine lv_iconst (v := nI 1) hx hb dX5_round_77 (by decide) ?_
  refine lv_icmp_ne (tgt := 89) hx hb dX5_round_78 (by decide) (fun q_19 => absurd (by decide) q_19) (fun q_19 => ?_)
  refine lv_aload_n hx hb dX5_round_81 rfl (lv_at hl 0 rfl) ?_
  have hbl := basF_lt (msgF (vs en) en)
  refine x_callW1 (As := []) (rest := []) hC vf_X5_119 hw hA (by decide) hc_6 rfl rfl (k5_base l _ _ _ _ _ _ _ _ vlf (vs en) hen (hvl rfl en (Nat.le_refl _)) hc_6 hc_15) ⟨rfl, rfl, Nat.le_of_ble_eq_true rfl, Nat.le_of_ble_eq_true rfl⟩ hl.1 (Nat.le_of_ble_eq_true rfl) dX5_round_82 ⟨Nat.zero_le _, Nat.zero_le _⟩ rfl (fun w_21 H locs hu_20 hw => ?_)
  have hc_22 : w_21 77 = .inr (4, [.int (nI 0), .int (nI n), .int (nI t), .int (nI 1), .ref (ad 78), .ref (ad 79), .ref (ad 80), .ref (ad 81), .ref (ad 82), .ref (ad 83), .int (nI qu), .ref (ad 84), .ref (ad 85), .ref (ad 86), .int (nI en), .int (nI kp), .ref (ad 87), .long (msgF (vs en) en)]) := by rw [hu_20]; exact va_up_self _ _ _
  have hc_23 : w_21 78 = .inl (cZ, 17, .inl dz) := by rw [hu_20, va_up_ne _ _ (by decide)]; exact hc_7
  have hc_24 : w_21 79 = .inl (cZ, 17, .inl oz) := by rw [hu_20, va_up_ne _ _ (by decide)]; exact hc_8
  have hc_25 : w_21 80 = .inl (cJ, 289, .inr (.inl cf)) := by rw [hu_20, va_up_ne _ _ (by decide)]; exact hc_9
  have hc_26 : w_21 81 = .inl (cJ, 289, .inr (.inl mf)) := by rw [hu_20, va_up_ne _ _ (by decide)]; exact hc_10
  have hc_27 : w_21 82 = .inl (cJ, 289, .inr (.inl sf)) := by rw [hu_20, va_up_ne _ _ (by decide)]; exact hc_11
  have hc_28 : w_21 83 = .inl (cZ, 289, .inl xf) := by rw [hu_20, va_up_ne _ _ (by decide)]; exact hc_12
  have hc_29 : w_21 84 = .inl (cJ, 17, .inr (.inl kyf)) := by rw [hu_20, va_up_ne _ _ (by decide)]; exact hc_13
  have hc_30 : w_21 85 = .inl (cJ, 17, .inr (.inl swf)) := by rw [hu_20, va_up_ne _ _ (by decide)]; exact hc_14
  have hc_31 : w_21 86 = .inl (cJ, 301, .inr (.inl vlf)) := by rw [hu_20, va_up_ne _ _ (by decide)]; exact hc_15
  have hc_32 : w_21 87 = .inl (cJ, 17, .inr (.inl plf)) := by rw [hu_20, va_up_ne _ _ (by decide)]; exact hc_16
  refine lv_l2i hx hb dX5_round_85 (lN_i _) ?_
  refine lv_goto (tgt := 102) hx hb dX5_round_86 (by decide) ?_
  have hfr : ∀ z, z ≠ 77 → w_21 z = w z := fun z hhfr0 => by rw [hu_20, va_up_ne _ _ hhfr0, hu_4, va_up_ne _ _ hhfr0]
  exact x_wretI hx hb hr hlocks hw ⟨fun z hz => hfr z (by omega), RM.set77 hRM hfr hc_22⟩ dX5_round_102
set_option maxHeartbeats 4000000 in
set_option maxRecDepth 100000 in
theorem m_round2 (l : Launch) {D : va_G} {cI cJ cZ cD : ClassId} {ad : Nat → Nat} {w : Nat → va_E} {sz : Nat} (n t cl qu en kp : Nat) (dl ou cp ks pt : Nat → Nat) (co sh : Nat → Nat → Nat) (vs : Nat → Int64) (cd : Int32) (hok : OkS n t cl qu en kp dl ou cp ks pt co sh) (hRM : RM ad cJ cZ w cd n t cl qu en kp dl ou cp ks pt co sh vs) (hcl0 : cl = 1)  : MW l yX5_round (.code yX5_round cX5_round 4 (some .int)) ({ frames := 3, cells := 0, slots := 0, locals := 88 }) [.ref (ad 77), .int (nI 2)] D (tyL cI cJ cZ cD) ad 89 w sz (some (.int (nI (pcN kp)))) (fun u => (∀ z, z < 77 ∨ 87 < z → u z = w z) ∧ RM ad cJ cZ u (nI 0) n t 1 qu en kp dl ou cp ks pt co sh vs) := by
  refine MW.of (by decide) (Nat.le_of_ble_eq_true rfl) ?_
  intro p e s m below meth c ls hC hr hlocks hl hw
  obtain ⟨hx, hb, hml, hown, hts⟩ := id hC
  have hA : ∀ q, s.heap.size ≤ q → xA ad 89 s.heap.size q := fun q h => Or.inr h
  have hl : lv_has ls 4 [(0, .ref (ad 77)), (1, .int (nI 2))] := hl
  obtain ⟨⟨hs, hM⟩, ⟨dz, oz, hDz, hOz, hdo⟩, ⟨cf, mf, sf, hCf, hMf, hSf, hcs⟩, ⟨xf, hXf, hxx⟩, ⟨kyf, swf, hKy, hSw, hks⟩, ⟨vlf, hVl, hvl⟩, ⟨plf, hPl, hpl⟩⟩ := id hRM
  obtain ⟨⟨hn, ht, hcl, hqu, hen, hkp⟩, hle, ⟨hqb, hkb, hcb⟩, hvals, hclv, hptl, ⟨hz1, hz2, hz3⟩⟩ := id hok
  subst hcl0
  refine lv_aload_n hx hb dX5_round_0 rfl (lv_at hl 0 rfl) ?_
  refine lv_aload_n hx hb dX5_round_1 rfl (lv_at hl 0 rfl) ?_
  refine gf_X5_71 hx hb hts hown hw (by decide) hM rfl dX5_round_2 ?_
  refine lv_if_ne (tgt := 12) hx hb dX5_round_5 (by decide) (fun q_1 => ?_) (fun q_1 => absurd q_1 (by decide))
  refine lv_iload_n hx hb dX5_round_12 rfl (lv_at hl 1 rfl) ?_
  refine lv_if_lt (tgt := 21) hx hb dX5_round_13 (by decide) (fun q_2 => absurd q_2 (by decide)) (fun q_2 => ?_)
  refine lv_iload_n hx hb dX5_round_16 rfl (lv_at hl 1 rfl) ?_
  refine lv_iconst (v := nI 3) hx hb dX5_round_17 (by decide) ?_
  refine lv_icmp_le (tgt := 25) hx hb dX5_round_18 (by decide) (fun q_3 => ?_) (fun q_3 => absurd (by decide) q_3)
  refine lv_iconst (v := nI 0) hx hb dX5_round_25 (by decide) ?_
  refine x_callW1 (As := [.int (nI 0)]) (rest := []) hC vf_X5_64 hw hA (by decide) hM rfl rfl (k5_refuses0 l _ _ _ _ _ _ _ _ hM) ⟨rfl, rfl, Nat.le_of_ble_eq_true rfl, Nat.le_of_ble_eq_true rfl⟩ hl.1 (Nat.le_of_ble_eq_true rfl) dX5_round_26 ⟨Nat.zero_le _, Nat.zero_le _⟩ rfl (fun w_5 H locs hu_4 hw => ?_)
  have hc_6 : w_5 77 = .inr (4, [.int (nI 0), .int (nI n), .int (nI t), .int (nI 1), .ref (ad 78), .ref (ad 79), .ref (ad 80), .ref (ad 81), .ref (ad 82), .ref (ad 83), .int (nI qu), .ref (ad 84), .ref (ad 85), .ref (ad 86), .int (nI en), .int (nI kp), .ref (ad 87), .long hs]) := by rw [hu_4]; exact va_up_self _ _ _
  have hc_7 : w_5 78 = .inl (cZ, 17, .inl dz) := by rw [hu_4, va_up_ne _ _ (by decide)]; exact hDz
  have hc_8 : w_5 79 = .inl (cZ, 17, .inl oz) := by rw [hu_4, va_up_ne _ _ (by decide)]; exact hOz
  have hc_9 : w_5 80 = .inl (cJ, 289, .inr (.inl cf)) := by rw [hu_4, va_up_ne _ _ (by decide)]; exact hCf
  have hc_10 : w_5 81 = .inl (cJ, 289, .inr (.inl mf)) := by rw [hu_4, va_up_ne _ _ (by decide)]; exact hMf
  have hc_11 : w_5 82 = .inl (cJ, 289, .inr (.inl sf)) := by rw [hu_4, va_up_ne _ _ (by decide)]; exact hSf
  have hc_12 : w_5 83 = .inl (cZ, 289, .inl xf) := by rw [hu_4, va_up_ne _ _ (by decide)]; exact hXf
  have hc_13 : w_5 84 = .inl (cJ, 17, .inr (.inl kyf)) := by rw [hu_4, va_up_ne _ _ (by decide)]; exact hKy
  have hc_14 : w_5 85 = .inl (cJ, 17, .inr (.inl swf)) := by rw [hu_4, va_up_ne _ _ (by decide)]; exact hSw
  have hc_15 : w_5 86 = .inl (cJ, 301, .inr (.inl vlf)) := by rw [hu_4, va_up_ne _ _ (by decide)]; exact hVl
  have hc_16 : w_5 87 = .inl (cJ, 17, .inr (.inl plf)) := by rw [hu_4, va_up_ne _ _ (by decide)]; exact hPl
  refine lv_if_eq (tgt := 34) hx hb dX5_round_29 (by decide) (fun q_17 => ?_) (fun q_17 => absurd (by decide) q_17)
  refine lv_iconst (v := nI 0) hx hb dX5_round_34 (by decide) ?_
  refine lv_istore_n (lv' := [(2, .int (nI 0)), (0, .ref (ad 77)), (1, .int (nI 2))]) hx hb dX5_round_35 rfl hl (by decide) rfl (fun ls hl => ?_)
  refine lv_iconst (v := nI 1) hx hb dX5_round_36 (by decide) ?_
  refine lv_istore_n (lv' := [(3, .int (nI 1)), (2, .int (nI 0)), (0, .ref (ad 77)), (1, .int (nI 2))]) hx hb dX5_round_37 rfl hl (by decide) rfl (fun ls hl => ?_)
  refine k5_round_loop hC hA (nI 0) n t 1 qu en kp hs hn hkp (nI 2) hc_6 (fun ls H locs hw hl => ?_) n 0 ls H locs (by omega) hw (lv_sub hl [2, 3, 1, 0] rfl)
  have hl : lv_has ls 4 [(0, .ref (ad 77)), (1, .int (nI 2)), (2, .int (nI (cnt (tb kp) n)))] := hl
  refine lv_iload_n hx hb dX5_round_63 rfl (lv_at hl 1 rfl) ?_
  refine lv_if_ne (tgt := 76) hx hb dX5_round_64 (by decide) (fun q_18 => ?_) (fun q_18 => absurd q_18 (by decide))
  refine lv_iload_n hx hb dX5_round_76 rfl (lv_at hl 1 rfl) ?_
  refine lv_iconst (v := nI 1) hx hb dX5_round_77 (by decide) ?_
  refine lv_icmp_ne (tgt := 89) hx hb dX5_round_78 (by decide) (fun q_19 => ?_) (fun q_19 => absurd q_19 (by decide))
  refine lv_iload_n hx hb dX5_round_89 rfl (lv_at hl 1 rfl) ?_
  refine lv_iconst (v := nI 2) hx hb dX5_round_90 (by decide) ?_
  refine lv_icmp_ne (tgt := 98) hx hb dX5_round_91 (by decide) (fun q_20 => absurd (by decide) q_20) (fun q_20 => ?_)
  refine lv_iload_n hx hb dX5_round_94 rfl (lv_at hl 2 rfl) ?_
  refine lv_goto (tgt := 102) hx hb dX5_round_95 (by decide) ?_
  rw [pc_cnt hn hkb]
  have hfr : ∀ z, z ≠ 77 → w_5 z = w z := fun z hhfr0 => by rw [hu_4, va_up_ne _ _ hhfr0]
  exact x_wretI hx hb hr hlocks hw ⟨fun z hz => hfr z (by omega), RM.set77 hRM hfr hc_6⟩ dX5_round_102
set_option maxHeartbeats 4000000 in
set_option maxRecDepth 100000 in
theorem m_round3 (l : Launch) {D : va_G} {cI cJ cZ cD : ClassId} {ad : Nat → Nat} {w : Nat → va_E} {sz : Nat} (n t cl qu en kp : Nat) (dl ou cp ks pt : Nat → Nat) (co sh : Nat → Nat → Nat) (vs : Nat → Int64) (cd : Int32) (hok : OkS n t cl qu en kp dl ou cp ks pt co sh) (hRM : RM ad cJ cZ w cd n t cl qu en kp dl ou cp ks pt co sh vs) (hcl0 : cl = 1)  : MW l yX5_round (.code yX5_round cX5_round 4 (some .int)) ({ frames := 3, cells := 0, slots := 0, locals := 88 }) [.ref (ad 77), .int (nI 3)] D (tyL cI cJ cZ cD) ad 89 w sz (some (.int (nI kp))) (fun u => (∀ z, z < 77 ∨ 87 < z → u z = w z) ∧ RM ad cJ cZ u (nI 0) n t 1 qu en kp dl ou cp ks pt co sh vs) := by
  refine MW.of (by decide) (Nat.le_of_ble_eq_true rfl) ?_
  intro p e s m below meth c ls hC hr hlocks hl hw
  obtain ⟨hx, hb, hml, hown, hts⟩ := id hC
  have hA : ∀ q, s.heap.size ≤ q → xA ad 89 s.heap.size q := fun q h => Or.inr h
  have hl : lv_has ls 4 [(0, .ref (ad 77)), (1, .int (nI 3))] := hl
  obtain ⟨⟨hs, hM⟩, ⟨dz, oz, hDz, hOz, hdo⟩, ⟨cf, mf, sf, hCf, hMf, hSf, hcs⟩, ⟨xf, hXf, hxx⟩, ⟨kyf, swf, hKy, hSw, hks⟩, ⟨vlf, hVl, hvl⟩, ⟨plf, hPl, hpl⟩⟩ := id hRM
  obtain ⟨⟨hn, ht, hcl, hqu, hen, hkp⟩, hle, ⟨hqb, hkb, hcb⟩, hvals, hclv, hptl, ⟨hz1, hz2, hz3⟩⟩ := id hok
  subst hcl0
  refine lv_aload_n hx hb dX5_round_0 rfl (lv_at hl 0 rfl) ?_
  refine lv_aload_n hx hb dX5_round_1 rfl (lv_at hl 0 rfl) ?_
  refine gf_X5_71 hx hb hts hown hw (by decide) hM rfl dX5_round_2 ?_
  refine lv_if_ne (tgt := 12) hx hb dX5_round_5 (by decide) (fun q_1 => ?_) (fun q_1 => absurd q_1 (by decide))
  refine lv_iload_n hx hb dX5_round_12 rfl (lv_at hl 1 rfl) ?_
  refine lv_if_lt (tgt := 21) hx hb dX5_round_13 (by decide) (fun q_2 => absurd q_2 (by decide)) (fun q_2 => ?_)
  refine lv_iload_n hx hb dX5_round_16 rfl (lv_at hl 1 rfl) ?_
  refine lv_iconst (v := nI 3) hx hb dX5_round_17 (by decide) ?_
  refine lv_icmp_le (tgt := 25) hx hb dX5_round_18 (by decide) (fun q_3 => ?_) (fun q_3 => absurd (by decide) q_3)
  refine lv_iconst (v := nI 0) hx hb dX5_round_25 (by decide) ?_
  refine x_callW1 (As := [.int (nI 0)]) (rest := []) hC vf_X5_64 hw hA (by decide) hM rfl rfl (k5_refuses0 l _ _ _ _ _ _ _ _ hM) ⟨rfl, rfl, Nat.le_of_ble_eq_true rfl, Nat.le_of_ble_eq_true rfl⟩ hl.1 (Nat.le_of_ble_eq_true rfl) dX5_round_26 ⟨Nat.zero_le _, Nat.zero_le _⟩ rfl (fun w_5 H locs hu_4 hw => ?_)
  have hc_6 : w_5 77 = .inr (4, [.int (nI 0), .int (nI n), .int (nI t), .int (nI 1), .ref (ad 78), .ref (ad 79), .ref (ad 80), .ref (ad 81), .ref (ad 82), .ref (ad 83), .int (nI qu), .ref (ad 84), .ref (ad 85), .ref (ad 86), .int (nI en), .int (nI kp), .ref (ad 87), .long hs]) := by rw [hu_4]; exact va_up_self _ _ _
  have hc_7 : w_5 78 = .inl (cZ, 17, .inl dz) := by rw [hu_4, va_up_ne _ _ (by decide)]; exact hDz
  have hc_8 : w_5 79 = .inl (cZ, 17, .inl oz) := by rw [hu_4, va_up_ne _ _ (by decide)]; exact hOz
  have hc_9 : w_5 80 = .inl (cJ, 289, .inr (.inl cf)) := by rw [hu_4, va_up_ne _ _ (by decide)]; exact hCf
  have hc_10 : w_5 81 = .inl (cJ, 289, .inr (.inl mf)) := by rw [hu_4, va_up_ne _ _ (by decide)]; exact hMf
  have hc_11 : w_5 82 = .inl (cJ, 289, .inr (.inl sf)) := by rw [hu_4, va_up_ne _ _ (by decide)]; exact hSf
  have hc_12 : w_5 83 = .inl (cZ, 289, .inl xf) := by rw [hu_4, va_up_ne _ _ (by decide)]; exact hXf
  have hc_13 : w_5 84 = .inl (cJ, 17, .inr (.inl kyf)) := by rw [hu_4, va_up_ne _ _ (by decide)]; exact hKy
  have hc_14 : w_5 85 = .inl (cJ, 17, .inr (.inl swf)) := by rw [hu_4, va_up_ne _ _ (by decide)]; exact hSw
  have hc_15 : w_5 86 = .inl (cJ, 301, .inr (.inl vlf)) := by rw [hu_4, va_up_ne _ _ (by decide)]; exact hVl
  have hc_16 : w_5 87 = .inl (cJ, 17, .inr (.inl plf)) := by rw [hu_4, va_up_ne _ _ (by decide)]; exact hPl
  refine lv_if_eq (tgt := 34) hx hb dX5_round_29 (by decide) (fun q_17 => ?_) (fun q_17 => absurd (by decide) q_17)
  refine lv_iconst (v := nI 0) hx hb dX5_round_34 (by decide) ?_
  refine lv_istore_n (lv' := [(2, .int (nI 0)), (0, .ref (ad 77)), (1, .int (nI 3))]) hx hb dX5_round_35 rfl hl (by decide) rfl (fun ls hl => ?_)
  refine lv_iconst (v := nI 1) hx hb dX5_round_36 (by decide) ?_
  refine lv_istore_n (lv' := [(3, .int (nI 1)), (2, .int (nI 0)), (0, .ref (ad 77)), (1, .int (nI 3))]) hx hb dX5_round_37 rfl hl (by decide) rfl (fun ls hl => ?_)
  refine k5_round_loop hC hA (nI 0) n t 1 qu en kp hs hn hkp (nI 3) hc_6 (fun ls H locs hw hl => ?_) n 0 ls H locs (by omega) hw (lv_sub hl [2, 3, 1, 0] rfl)
  have hl : lv_has ls 4 [(0, .ref (ad 77)), (1, .int (nI 3)), (2, .int (nI (cnt (tb kp) n)))] := hl
  refine lv_iload_n hx hb dX5_round_63 rfl (lv_at hl 1 rfl) ?_
  refine lv_if_ne (tgt := 76) hx hb dX5_round_64 (by decide) (fun q_18 => ?_) (fun q_18 => absurd q_18 (by decide))
  refine lv_iload_n hx hb dX5_round_76 rfl (lv_at hl 1 rfl) ?_
  refine lv_iconst (v := nI 1) hx hb dX5_round_77 (by decide) ?_
  refine lv_icmp_ne (tgt := 89) hx hb dX5_round_78 (by decide) (fun q_19 => ?_) (fun q_19 => absurd q_19 (by decide))
  refine lv_iload_n hx hb dX5_round_89 rfl (lv_at hl 1 rfl) ?_
  refine lv_iconst (v := nI 2) hx hb dX5_round_90 (by decide) ?_
  refine lv_icmp_ne (tgt := 98) hx hb dX5_round_91 (by decide) (fun q_20 => ?_) (fun q_20 => absurd q_20 (by decide))
  refine lv_aload_n hx hb dX5_round_98 rfl (lv_at hl 0 rfl) ?_
  refine gf_X5_81 hx hb hts hown hw (by decide) hc_6 rfl dX5_round_99 ?_
  have hfr : ∀ z, z ≠ 77 → w_5 z = w z := fun z hhfr0 => by rw [hu_4, va_up_ne _ _ hhfr0]
  exact x_wretI hx hb hr hlocks hw ⟨fun z hz => hfr z (by omega), RM.set77 hRM hfr hc_6⟩ dX5_round_102
set_option maxHeartbeats 4000000 in
set_option maxRecDepth 100000 in
theorem m_roundS (l : Launch) {D : va_G} {cI cJ cZ cD : ClassId} {ad : Nat → Nat} {w : Nat → va_E} {sz : Nat} (n t cl qu en kp : Nat) (dl ou cp ks pt : Nat → Nat) (co sh : Nat → Nat → Nat) (vs : Nat → Int64) (cd : Int32) (hok : OkS n t cl qu en kp dl ou cp ks pt co sh) (hRM : RM ad cJ cZ w cd n t cl qu en kp dl ou cp ks pt co sh vs) (x : Int32) (hcl0 : cl = 0)  : MW l yX5_round (.code yX5_round cX5_round 4 (some .int)) ({ frames := 3, cells := 0, slots := 0, locals := 88 }) [.ref (ad 77), .int x] D (tyL cI cJ cZ cD) ad 89 w sz (some (.int (nI 0))) (fun u => (∀ z, z < 77 ∨ 87 < z → u z = w z) ∧ RM ad cJ cZ u (nI 1) n t 0 qu en kp dl ou cp ks pt co sh vs) := by
  refine MW.of (by decide) (Nat.le_of_ble_eq_true rfl) ?_
  intro p e s m below meth c ls hC hr hlocks hl hw
  obtain ⟨hx, hb, hml, hown, hts⟩ := id hC
  have hA : ∀ q, s.heap.size ≤ q → xA ad 89 s.heap.size q := fun q h => Or.inr h
  have hl : lv_has ls 4 [(0, .ref (ad 77)), (1, .int x)] := hl
  obtain ⟨⟨hs, hM⟩, ⟨dz, oz, hDz, hOz, hdo⟩, ⟨cf, mf, sf, hCf, hMf, hSf, hcs⟩, ⟨xf, hXf, hxx⟩, ⟨kyf, swf, hKy, hSw, hks⟩, ⟨vlf, hVl, hvl⟩, ⟨plf, hPl, hpl⟩⟩ := id hRM
  obtain ⟨⟨hn, ht, hcl, hqu, hen, hkp⟩, hle, ⟨hqb, hkb, hcb⟩, hvals, hclv, hptl, ⟨hz1, hz2, hz3⟩⟩ := id hok
  subst hcl0
  refine lv_aload_n hx hb dX5_round_0 rfl (lv_at hl 0 rfl) ?_
  refine lv_aload_n hx hb dX5_round_1 rfl (lv_at hl 0 rfl) ?_
  refine gf_X5_71 hx hb hts hown hw (by decide) hM rfl dX5_round_2 ?_
  refine lv_if_ne (tgt := 12) hx hb dX5_round_5 (by decide) (fun q_1 => absurd (by decide) q_1) (fun q_1 => ?_)
  refine lv_iconst (v := nI 1) hx hb dX5_round_8 (by decide) ?_
  refine lv_goto (tgt := 26) hx hb dX5_round_9 (by decide) ?_
  refine x_callW1 (As := [.int (nI 1)]) (rest := []) hC vf_X5_64 hw hA (by decide) hM rfl rfl (k5_refuses1 l _ _ _ _ _ _ _ _ hM) ⟨rfl, rfl, Nat.le_of_ble_eq_true rfl, Nat.le_of_ble_eq_true rfl⟩ hl.1 (Nat.le_of_ble_eq_true rfl) dX5_round_26 ⟨Nat.zero_le _, Nat.zero_le _⟩ rfl (fun w_3 H locs hu_2 hw => ?_)
  have hc_4 : w_3 77 = .inr (4, [.int (nI 1), .int (nI n), .int (nI t), .int (nI 0), .ref (ad 78), .ref (ad 79), .ref (ad 80), .ref (ad 81), .ref (ad 82), .ref (ad 83), .int (nI qu), .ref (ad 84), .ref (ad 85), .ref (ad 86), .int (nI en), .int (nI kp), .ref (ad 87), .long hs]) := by rw [hu_2]; exact va_up_self _ _ _
  have hc_5 : w_3 78 = .inl (cZ, 17, .inl dz) := by rw [hu_2, va_up_ne _ _ (by decide)]; exact hDz
  have hc_6 : w_3 79 = .inl (cZ, 17, .inl oz) := by rw [hu_2, va_up_ne _ _ (by decide)]; exact hOz
  have hc_7 : w_3 80 = .inl (cJ, 289, .inr (.inl cf)) := by rw [hu_2, va_up_ne _ _ (by decide)]; exact hCf
  have hc_8 : w_3 81 = .inl (cJ, 289, .inr (.inl mf)) := by rw [hu_2, va_up_ne _ _ (by decide)]; exact hMf
  have hc_9 : w_3 82 = .inl (cJ, 289, .inr (.inl sf)) := by rw [hu_2, va_up_ne _ _ (by decide)]; exact hSf
  have hc_10 : w_3 83 = .inl (cZ, 289, .inl xf) := by rw [hu_2, va_up_ne _ _ (by decide)]; exact hXf
  have hc_11 : w_3 84 = .inl (cJ, 17, .inr (.inl kyf)) := by rw [hu_2, va_up_ne _ _ (by decide)]; exact hKy
  have hc_12 : w_3 85 = .inl (cJ, 17, .inr (.inl swf)) := by rw [hu_2, va_up_ne _ _ (by decide)]; exact hSw
  have hc_13 : w_3 86 = .inl (cJ, 301, .inr (.inl vlf)) := by rw [hu_2, va_up_ne _ _ (by decide)]; exact hVl
  have hc_14 : w_3 87 = .inl (cJ, 17, .inr (.inl plf)) := by rw [hu_2, va_up_ne _ _ (by decide)]; exact hPl
  refine lv_if_eq (tgt := 34) hx hb dX5_round_29 (by decide) (fun q_15 => absurd q_15 (by decide)) (fun q_15 => ?_)
  refine lv_iconst (v := nI 0) hx hb dX5_round_32 (by decide) ?_
  have hfr : ∀ z, z ≠ 77 → w_3 z = w z := fun z hhfr0 => by rw [hu_2, va_up_ne _ _ hhfr0]
  exact x_wretI hx hb hr hlocks hw ⟨fun z hz => hfr z (by omega), RM.set77 hRM hfr hc_4⟩ dX5_round_33
set_option maxHeartbeats 4000000 in
set_option maxRecDepth 100000 in
theorem m_roundA (l : Launch) {D : va_G} {cI cJ cZ cD : ClassId} {ad : Nat → Nat} {w : Nat → va_E} {sz : Nat} (n t cl qu en kp : Nat) (dl ou cp ks pt : Nat → Nat) (co sh : Nat → Nat → Nat) (vs : Nat → Int64) (cd : Int32) (hok : OkS n t cl qu en kp dl ou cp ks pt co sh) (hRM : RM ad cJ cZ w cd n t cl qu en kp dl ou cp ks pt co sh vs) (x : Int32) (hcl0 : cl = 1) (hbad : x < 0 ∨ ¬ x ≤ nI 3)  : MW l yX5_round (.code yX5_round cX5_round 4 (some .int)) ({ frames := 3, cells := 0, slots := 0, locals := 88 }) [.ref (ad 77), .int x] D (tyL cI cJ cZ cD) ad 89 w sz (some (.int (nI 0))) (fun u => (∀ z, z < 77 ∨ 87 < z → u z = w z) ∧ RM ad cJ cZ u (nI 2) n t 1 qu en kp dl ou cp ks pt co sh vs) := by
  refine MW.of (by decide) (Nat.le_of_ble_eq_true rfl) ?_
  intro p e s m below meth c ls hC hr hlocks hl hw
  obtain ⟨hx, hb, hml, hown, hts⟩ := id hC
  have hA : ∀ q, s.heap.size ≤ q → xA ad 89 s.heap.size q := fun q h => Or.inr h
  have hl : lv_has ls 4 [(0, .ref (ad 77)), (1, .int x)] := hl
  obtain ⟨⟨hs, hM⟩, ⟨dz, oz, hDz, hOz, hdo⟩, ⟨cf, mf, sf, hCf, hMf, hSf, hcs⟩, ⟨xf, hXf, hxx⟩, ⟨kyf, swf, hKy, hSw, hks⟩, ⟨vlf, hVl, hvl⟩, ⟨plf, hPl, hpl⟩⟩ := id hRM
  obtain ⟨⟨hn, ht, hcl, hqu, hen, hkp⟩, hle, ⟨hqb, hkb, hcb⟩, hvals, hclv, hptl, ⟨hz1, hz2, hz3⟩⟩ := id hok
  subst hcl0
  refine lv_aload_n hx hb dX5_round_0 rfl (lv_at hl 0 rfl) ?_
  refine lv_aload_n hx hb dX5_round_1 rfl (lv_at hl 0 rfl) ?_
  refine gf_X5_71 hx hb hts hown hw (by decide) hM rfl dX5_round_2 ?_
  refine lv_if_ne (tgt := 12) hx hb dX5_round_5 (by decide) (fun q_1 => ?_) (fun q_1 => absurd q_1 (by decide))
  refine lv_iload_n hx hb dX5_round_12 rfl (lv_at hl 1 rfl) ?_
  refine lv_if_lt (tgt := 21) hx hb dX5_round_13 (by decide) (fun q1 => ?_) (fun q1 => ?_)
  · skip
    refine lv_iconst (v := nI 2) hx hb dX5_round_21 (by decide) ?_
    refine lv_goto (tgt := 26) hx hb dX5_round_22 (by decide) ?_
    refine x_callW1 (As := [.int (nI 2)]) (rest := []) hC vf_X5_64 hw hA (by decide) hM rfl rfl (k5_refuses2 l _ _ _ _ _ _ _ _ hM) ⟨rfl, rfl, Nat.le_of_ble_eq_true rfl, Nat.le_of_ble_eq_true rfl⟩ hl.1 (Nat.le_of_ble_eq_true rfl) dX5_round_26 ⟨Nat.zero_le _, Nat.zero_le _⟩ rfl (fun w_3 H locs hu_2 hw => ?_)
    have hc_4 : w_3 77 = .inr (4, [.int (nI 2), .int (nI n), .int (nI t), .int (nI 1), .ref (ad 78), .ref (ad 79), .ref (ad 80), .ref (ad 81), .ref (ad 82), .ref (ad 83), .int (nI qu), .ref (ad 84), .ref (ad 85), .ref (ad 86), .int (nI en), .int (nI kp), .ref (ad 87), .long hs]) := by rw [hu_2]; exact va_up_self _ _ _
    have hc_5 : w_3 78 = .inl (cZ, 17, .inl dz) := by rw [hu_2, va_up_ne _ _ (by decide)]; exact hDz
    have hc_6 : w_3 79 = .inl (cZ, 17, .inl oz) := by rw [hu_2, va_up_ne _ _ (by decide)]; exact hOz
    have hc_7 : w_3 80 = .inl (cJ, 289, .inr (.inl cf)) := by rw [hu_2, va_up_ne _ _ (by decide)]; exact hCf
    have hc_8 : w_3 81 = .inl (cJ, 289, .inr (.inl mf)) := by rw [hu_2, va_up_ne _ _ (by decide)]; exact hMf
    have hc_9 : w_3 82 = .inl (cJ, 289, .inr (.inl sf)) := by rw [hu_2, va_up_ne _ _ (by decide)]; exact hSf
    have hc_10 : w_3 83 = .inl (cZ, 289, .inl xf) := by rw [hu_2, va_up_ne _ _ (by decide)]; exact hXf
    have hc_11 : w_3 84 = .inl (cJ, 17, .inr (.inl kyf)) := by rw [hu_2, va_up_ne _ _ (by decide)]; exact hKy
    have hc_12 : w_3 85 = .inl (cJ, 17, .inr (.inl swf)) := by rw [hu_2, va_up_ne _ _ (by decide)]; exact hSw
    have hc_13 : w_3 86 = .inl (cJ, 301, .inr (.inl vlf)) := by rw [hu_2, va_up_ne _ _ (by decide)]; exact hVl
    have hc_14 : w_3 87 = .inl (cJ, 17, .inr (.inl plf)) := by rw [hu_2, va_up_ne _ _ (by decide)]; exact hPl
    refine lv_if_eq (tgt := 34) hx hb dX5_round_29 (by decide) (fun q_15 => absurd q_15 (by decide)) (fun q_15 => ?_)
    refine lv_iconst (v := nI 0) hx hb dX5_round_32 (by decide) ?_
    have hfr : ∀ z, z ≠ 77 → w_3 z = w z := fun z hhfr0 => by rw [hu_2, va_up_ne _ _ hhfr0]
    exact x_wretI hx hb hr hlocks hw ⟨fun z hz => hfr z (by omega), RM.set77 hRM hfr hc_4⟩ dX5_round_33
  · skip
    refine lv_iload_n hx hb dX5_round_16 rfl (lv_at hl 1 rfl) ?_
    refine lv_iconst (v := nI 3) hx hb dX5_round_17 (by decide) ?_
    refine lv_icmp_le (tgt := 25) hx hb dX5_round_18 (by decide) (fun q2 => absurd q2 (hbad.resolve_left q1)) (fun q2 => ?_)
    refine lv_iconst (v := nI 2) hx hb dX5_round_21 (by decide) ?_
    refine lv_goto (tgt := 26) hx hb dX5_round_22 (by decide) ?_
    refine x_callW1 (As := [.int (nI 2)]) (rest := []) hC vf_X5_64 hw hA (by decide) hM rfl rfl (k5_refuses2 l _ _ _ _ _ _ _ _ hM) ⟨rfl, rfl, Nat.le_of_ble_eq_true rfl, Nat.le_of_ble_eq_true rfl⟩ hl.1 (Nat.le_of_ble_eq_true rfl) dX5_round_26 ⟨Nat.zero_le _, Nat.zero_le _⟩ rfl (fun w_17 H locs hu_16 hw => ?_)
    have hc_18 : w_17 77 = .inr (4, [.int (nI 2), .int (nI n), .int (nI t), .int (nI 1), .ref (ad 78), .ref (ad 79), .ref (ad 80), .ref (ad 81), .ref (ad 82), .ref (ad 83), .int (nI qu), .ref (ad 84), .ref (ad 85), .ref (ad 86), .int (nI en), .int (nI kp), .ref (ad 87), .long hs]) := by rw [hu_16]; exact va_up_self _ _ _
    have hc_19 : w_17 78 = .inl (cZ, 17, .inl dz) := by rw [hu_16, va_up_ne _ _ (by decide)]; exact hDz
    have hc_20 : w_17 79 = .inl (cZ, 17, .inl oz) := by rw [hu_16, va_up_ne _ _ (by decide)]; exact hOz
    have hc_21 : w_17 80 = .inl (cJ, 289, .inr (.inl cf)) := by rw [hu_16, va_up_ne _ _ (by decide)]; exact hCf
    have hc_22 : w_17 81 = .inl (cJ, 289, .inr (.inl mf)) := by rw [hu_16, va_up_ne _ _ (by decide)]; exact hMf
    have hc_23 : w_17 82 = .inl (cJ, 289, .inr (.inl sf)) := by rw [hu_16, va_up_ne _ _ (by decide)]; exact hSf
    have hc_24 : w_17 83 = .inl (cZ, 289, .inl xf) := by rw [hu_16, va_up_ne _ _ (by decide)]; exact hXf
    have hc_25 : w_17 84 = .inl (cJ, 17, .inr (.inl kyf)) := by rw [hu_16, va_up_ne _ _ (by decide)]; exact hKy
    have hc_26 : w_17 85 = .inl (cJ, 17, .inr (.inl swf)) := by rw [hu_16, va_up_ne _ _ (by decide)]; exact hSw
    have hc_27 : w_17 86 = .inl (cJ, 301, .inr (.inl vlf)) := by rw [hu_16, va_up_ne _ _ (by decide)]; exact hVl
    have hc_28 : w_17 87 = .inl (cJ, 17, .inr (.inl plf)) := by rw [hu_16, va_up_ne _ _ (by decide)]; exact hPl
    refine lv_if_eq (tgt := 34) hx hb dX5_round_29 (by decide) (fun q_29 => absurd q_29 (by decide)) (fun q_29 => ?_)
    refine lv_iconst (v := nI 0) hx hb dX5_round_32 (by decide) ?_
    have hfr : ∀ z, z ≠ 77 → w_17 z = w z := fun z hhfr0 => by rw [hu_16, va_up_ne _ _ hhfr0]
    exact x_wretI hx hb hr hlocks hw ⟨fun z hz => hfr z (by omega), RM.set77 hRM hfr hc_18⟩ dX5_round_33
set_option maxHeartbeats 4000000 in
set_option maxRecDepth 100000 in
theorem m_says0 (l : Launch) {D : va_G} {cI cJ cZ cD : ClassId} {ad : Nat → Nat} {w : Nat → va_E} {sz : Nat} (n t cl qu en kp : Nat) (dl ou cp ks pt : Nat → Nat) (co sh : Nat → Nat → Nat) (vs : Nat → Int64) (cd : Int32) (hok : OkS n t cl qu en kp dl ou cp ks pt co sh) (hRM : RM ad cJ cZ w cd n t cl qu en kp dl ou cp ks pt co sh vs) (k : Nat) (hk1 : 1 ≤ k) (hk2 : k ≤ n) (hcl0 : cl = 1)  : MW l yX5_says (.code yX5_says cX5_says 3 (some .int)) ({ frames := 4, cells := 0, slots := 0, locals := 128 }) [.ref (ad 77), .int (nI k), .int (nI 0)] D (tyL cI cJ cZ cD) ad 89 w sz (some (.int (nI (syP ks vs en k)))) (fun u => (∀ z, z < 77 ∨ 87 < z → u z = w z) ∧ RM ad cJ cZ u (nI 0) n t 1 qu en kp dl ou cp ks pt co sh vs) := by
  refine MW.of (by decide) (Nat.le_of_ble_eq_true rfl) ?_
  intro p e s m below meth c ls hC hr hlocks hl hw
  obtain ⟨hx, hb, hml, hown, hts⟩ := id hC
  have hA : ∀ q, s.heap.size ≤ q → xA ad 89 s.heap.size q := fun q h => Or.inr h
  have hl : lv_has ls 3 [(0, .ref (ad 77)), (1, .int (nI k)), (2, .int (nI 0))] := hl
  obtain ⟨⟨hs, hM⟩, ⟨dz, oz, hDz, hOz, hdo⟩, ⟨cf, mf, sf, hCf, hMf, hSf, hcs⟩, ⟨xf, hXf, hxx⟩, ⟨kyf, swf, hKy, hSw, hks⟩, ⟨vlf, hVl, hvl⟩, ⟨plf, hPl, hpl⟩⟩ := id hRM
  obtain ⟨⟨hn, ht, hcl, hqu, hen, hkp⟩, hle, ⟨hqb, hkb, hcb⟩, hvals, hclv, hptl, ⟨hz1, hz2, hz3⟩⟩ := id hok
  subst hcl0
  refine lv_aload_n hx hb dX5_says_0 rfl (lv_at hl 0 rfl) ?_
  refine lv_aload_n hx hb dX5_says_1 rfl (lv_at hl 0 rfl) ?_
  refine gf_X5_71 hx hb hts hown hw (by decide) hM rfl dX5_says_2 ?_
  refine lv_if_ne (tgt := 12) hx hb dX5_says_5 (by decide) (fun q_1 => ?_) (fun q_1 => absurd q_1 (by decide))
  refine lv_aload_n hx hb dX5_says_12 rfl (lv_at hl 0 rfl) ?_
  refine lv_iload_n hx hb dX5_says_13 rfl (lv_at hl 1 rfl) ?_
  refine x_callW1 (As := [.int (nI k)]) (rest := [.ref (ad 77)]) hC vf_X5_84 hw hA (by decide) hM rfl rfl (k5_isNode l _ _ _ _ _ _ _ _ hn k hk1 hk2 hM) ⟨rfl, rfl, Nat.le_of_ble_eq_true rfl, Nat.le_of_ble_eq_true rfl⟩ hl.1 (Nat.le_of_ble_eq_true rfl) dX5_says_14 ⟨Nat.zero_le _, Nat.zero_le _⟩ rfl (fun w_2 H locs hu hw => ?_)
  rw [hu] at hw
  refine lv_if_eq (tgt := 29) hx hb dX5_says_17 (by decide) (fun q_3 => absurd q_3 (by decide)) (fun q_3 => ?_)
  refine lv_iload_n hx hb dX5_says_20 rfl (lv_at hl 2 rfl) ?_
  refine lv_if_lt (tgt := 29) hx hb dX5_says_21 (by decide) (fun q_4 => absurd q_4 (by decide)) (fun q_4 => ?_)
  refine lv_iload_n hx hb dX5_says_24 rfl (lv_at hl 2 rfl) ?_
  refine lv_iconst (v := nI 2) hx hb dX5_says_25 (by decide) ?_
  refine lv_icmp_le (tgt := 33) hx hb dX5_says_26 (by decide) (fun q_5 => ?_) (fun q_5 => absurd (by decide) q_5)
  refine lv_iconst (v := nI 0) hx hb dX5_says_33 (by decide) ?_
  refine x_callW1 (As := [.int (nI 0)]) (rest := []) hC vf_X5_64 hw hA (by decide) hM rfl rfl (k5_refuses0 l _ _ _ _ _ _ _ _ hM) ⟨rfl, rfl, Nat.le_of_ble_eq_true rfl, Nat.le_of_ble_eq_true rfl⟩ hl.1 (Nat.le_of_ble_eq_true rfl) dX5_says_34 ⟨Nat.zero_le _, Nat.zero_le _⟩ rfl (fun w_7 H locs hu_6 hw => ?_)
  have hc_8 : w_7 77 = .inr (4, [.int (nI 0), .int (nI n), .int (nI t), .int (nI 1), .ref (ad 78), .ref (ad 79), .ref (ad 80), .ref (ad 81), .ref (ad 82), .ref (ad 83), .int (nI qu), .ref (ad 84), .ref (ad 85), .ref (ad 86), .int (nI en), .int (nI kp), .ref (ad 87), .long hs]) := by rw [hu_6]; exact va_up_self _ _ _
  have hc_9 : w_7 78 = .inl (cZ, 17, .inl dz) := by rw [hu_6, va_up_ne _ _ (by decide)]; exact hDz
  have hc_10 : w_7 79 = .inl (cZ, 17, .inl oz) := by rw [hu_6, va_up_ne _ _ (by decide)]; exact hOz
  have hc_11 : w_7 80 = .inl (cJ, 289, .inr (.inl cf)) := by rw [hu_6, va_up_ne _ _ (by decide)]; exact hCf
  have hc_12 : w_7 81 = .inl (cJ, 289, .inr (.inl mf)) := by rw [hu_6, va_up_ne _ _ (by decide)]; exact hMf
  have hc_13 : w_7 82 = .inl (cJ, 289, .inr (.inl sf)) := by rw [hu_6, va_up_ne _ _ (by decide)]; exact hSf
  have hc_14 : w_7 83 = .inl (cZ, 289, .inl xf) := by rw [hu_6, va_up_ne _ _ (by decide)]; exact hXf
  have hc_15 : w_7 84 = .inl (cJ, 17, .inr (.inl kyf)) := by rw [hu_6, va_up_ne _ _ (by decide)]; exact hKy
  have hc_16 : w_7 85 = .inl (cJ, 17, .inr (.inl swf)) := by rw [hu_6, va_up_ne _ _ (by decide)]; exact hSw
  have hc_17 : w_7 86 = .inl (cJ, 301, .inr (.inl vlf)) := by rw [hu_6, va_up_ne _ _ (by decide)]; exact hVl
  have hc_18 : w_7 87 = .inl (cJ, 17, .inr (.inl plf)) := by rw [hu_6, va_up_ne _ _ (by decide)]; exact hPl
  refine lv_if_eq (tgt := 42) hx hb dX5_says_37 (by decide) (fun q_19 => ?_) (fun q_19 => absurd (by decide) q_19)
  have hs1 := syP_lt ks vs en k; have hs2 := syC_lt ks vs en k; have hs3 := syZ_lt ks vs en k
  refine lv_aload_n hx hb dX5_says_42 rfl (lv_at hl 0 rfl) ?_
  refine lv_iload_n hx hb dX5_says_43 rfl (lv_at hl 1 rfl) ?_
  refine lv_iload_n hx hb dX5_says_44 rfl (lv_at hl 2 rfl) ?_
  refine x_callW1 (As := [.int (nI k), .int (nI 0)]) (rest := []) hC vf_X5_126 hw hA (by decide) hc_8 rfl rfl (k5_said0 l _ _ _ _ _ _ _ _ kyf swf vlf (vs en) hen (hvl rfl en (Nat.le_refl _)) k (ks k) (4 ^ ks k % 2147483579) (by omega) (hks rfl k (by omega)).1 (hks rfl k (by omega)).2 ((hclv rfl).1 k (by omega)) (Nat.lt_trans (Nat.mod_lt _ (by decide)) (by decide)) hc_8 hc_15 hc_16 hc_17) ⟨rfl, rfl, Nat.le_of_ble_eq_true rfl, Nat.le_of_ble_eq_true rfl⟩ hl.1 (Nat.le_of_ble_eq_true rfl) dX5_says_45 ⟨Nat.zero_le _, Nat.zero_le _⟩ rfl (fun w_21 H locs hu_20 hw => ?_)
  obtain ⟨hs9, hu_20⟩ := hu_20
  have hc_22 : w_21 77 = .inr (4, [.int (nI 0), .int (nI n), .int (nI t), .int (nI 1), .ref (ad 78), .ref (ad 79), .ref (ad 80), .ref (ad 81), .ref (ad 82), .ref (ad 83), .int (nI qu), .ref (ad 84), .ref (ad 85), .ref (ad 86), .int (nI en), .int (nI kp), .ref (ad 87), .long hs9]) := by rw [hu_20]; exact va_up_self _ _ _
  have hc_23 : w_21 78 = .inl (cZ, 17, .inl dz) := by rw [hu_20, va_up_ne _ _ (by decide)]; exact hc_9
  have hc_24 : w_21 79 = .inl (cZ, 17, .inl oz) := by rw [hu_20, va_up_ne _ _ (by decide)]; exact hc_10
  have hc_25 : w_21 80 = .inl (cJ, 289, .inr (.inl cf)) := by rw [hu_20, va_up_ne _ _ (by decide)]; exact hc_11
  have hc_26 : w_21 81 = .inl (cJ, 289, .inr (.inl mf)) := by rw [hu_20, va_up_ne _ _ (by decide)]; exact hc_12
  have hc_27 : w_21 82 = .inl (cJ, 289, .inr (.inl sf)) := by rw [hu_20, va_up_ne _ _ (by decide)]; exact hc_13
  have hc_28 : w_21 83 = .inl (cZ, 289, .inl xf) := by rw [hu_20, va_up_ne _ _ (by decide)]; exact hc_14
  have hc_29 : w_21 84 = .inl (cJ, 17, .inr (.inl kyf)) := by rw [hu_20, va_up_ne _ _ (by decide)]; exact hc_15
  have hc_30 : w_21 85 = .inl (cJ, 17, .inr (.inl swf)) := by rw [hu_20, va_up_ne _ _ (by decide)]; exact hc_16
  have hc_31 : w_21 86 = .inl (cJ, 301, .inr (.inl vlf)) := by rw [hu_20, va_up_ne _ _ (by decide)]; exact hc_17
  have hc_32 : w_21 87 = .inl (cJ, 17, .inr (.inl plf)) := by rw [hu_20, va_up_ne _ _ (by decide)]; exact hc_18
  refine lv_l2i hx hb dX5_says_48 (lN_i _) ?_
  have hfr : ∀ z, z ≠ 77 → w_21 z = w z := fun z hhfr0 => by rw [hu_20, va_up_ne _ _ hhfr0, hu_6, va_up_ne _ _ hhfr0]
  exact x_wretI hx hb hr hlocks hw ⟨fun z hz => hfr z (by omega), RM.set77 hRM hfr hc_22⟩ dX5_says_49
set_option maxHeartbeats 4000000 in
set_option maxRecDepth 100000 in
theorem m_says1 (l : Launch) {D : va_G} {cI cJ cZ cD : ClassId} {ad : Nat → Nat} {w : Nat → va_E} {sz : Nat} (n t cl qu en kp : Nat) (dl ou cp ks pt : Nat → Nat) (co sh : Nat → Nat → Nat) (vs : Nat → Int64) (cd : Int32) (hok : OkS n t cl qu en kp dl ou cp ks pt co sh) (hRM : RM ad cJ cZ w cd n t cl qu en kp dl ou cp ks pt co sh vs) (k : Nat) (hk1 : 1 ≤ k) (hk2 : k ≤ n) (hcl0 : cl = 1)  : MW l yX5_says (.code yX5_says cX5_says 3 (some .int)) ({ frames := 4, cells := 0, slots := 0, locals := 128 }) [.ref (ad 77), .int (nI k), .int (nI 1)] D (tyL cI cJ cZ cD) ad 89 w sz (some (.int (nI (syC ks vs en k)))) (fun u => (∀ z, z < 77 ∨ 87 < z → u z = w z) ∧ RM ad cJ cZ u (nI 0) n t 1 qu en kp dl ou cp ks pt co sh vs) := by
  refine MW.of (by decide) (Nat.le_of_ble_eq_true rfl) ?_
  intro p e s m below meth c ls hC hr hlocks hl hw
  obtain ⟨hx, hb, hml, hown, hts⟩ := id hC
  have hA : ∀ q, s.heap.size ≤ q → xA ad 89 s.heap.size q := fun q h => Or.inr h
  have hl : lv_has ls 3 [(0, .ref (ad 77)), (1, .int (nI k)), (2, .int (nI 1))] := hl
  obtain ⟨⟨hs, hM⟩, ⟨dz, oz, hDz, hOz, hdo⟩, ⟨cf, mf, sf, hCf, hMf, hSf, hcs⟩, ⟨xf, hXf, hxx⟩, ⟨kyf, swf, hKy, hSw, hks⟩, ⟨vlf, hVl, hvl⟩, ⟨plf, hPl, hpl⟩⟩ := id hRM
  obtain ⟨⟨hn, ht, hcl, hqu, hen, hkp⟩, hle, ⟨hqb, hkb, hcb⟩, hvals, hclv, hptl, ⟨hz1, hz2, hz3⟩⟩ := id hok
  subst hcl0
  refine lv_aload_n hx hb dX5_says_0 rfl (lv_at hl 0 rfl) ?_
  refine lv_aload_n hx hb dX5_says_1 rfl (lv_at hl 0 rfl) ?_
  refine gf_X5_71 hx hb hts hown hw (by decide) hM rfl dX5_says_2 ?_
  refine lv_if_ne (tgt := 12) hx hb dX5_says_5 (by decide) (fun q_1 => ?_) (fun q_1 => absurd q_1 (by decide))
  refine lv_aload_n hx hb dX5_says_12 rfl (lv_at hl 0 rfl) ?_
  refine lv_iload_n hx hb dX5_says_13 rfl (lv_at hl 1 rfl) ?_
  refine x_callW1 (As := [.int (nI k)]) (rest := [.ref (ad 77)]) hC vf_X5_84 hw hA (by decide) hM rfl rfl (k5_isNode l _ _ _ _ _ _ _ _ hn k hk1 hk2 hM) ⟨rfl, rfl, Nat.le_of_ble_eq_true rfl, Nat.le_of_ble_eq_true rfl⟩ hl.1 (Nat.le_of_ble_eq_true rfl) dX5_says_14 ⟨Nat.zero_le _, Nat.zero_le _⟩ rfl (fun w_2 H locs hu hw => ?_)
  rw [hu] at hw
  refine lv_if_eq (tgt := 29) hx hb dX5_says_17 (by decide) (fun q_3 => absurd q_3 (by decide)) (fun q_3 => ?_)
  refine lv_iload_n hx hb dX5_says_20 rfl (lv_at hl 2 rfl) ?_
  refine lv_if_lt (tgt := 29) hx hb dX5_says_21 (by decide) (fun q_4 => absurd q_4 (by decide)) (fun q_4 => ?_)
  refine lv_iload_n hx hb dX5_says_24 rfl (lv_at hl 2 rfl) ?_
  refine lv_iconst (v := nI 2) hx hb dX5_says_25 (by decide) ?_
  refine lv_icmp_le (tgt := 33) hx hb dX5_says_26 (by decide) (fun q_5 => ?_) (fun q_5 => absurd (by decide) q_5)
  refine lv_iconst (v := nI 0) hx hb dX5_says_33 (by decide) ?_
  refine x_callW1 (As := [.int (nI 0)]) (rest := []) hC vf_X5_64 hw hA (by decide) hM rfl rfl (k5_refuses0 l _ _ _ _ _ _ _ _ hM) ⟨rfl, rfl, Nat.le_of_ble_eq_true rfl, Nat.le_of_ble_eq_true rfl⟩ hl.1 (Nat.le_of_ble_eq_true rfl) dX5_says_34 ⟨Nat.zero_le _, Nat.zero_le _⟩ rfl (fun w_7 H locs hu_6 hw => ?_)
  have hc_8 : w_7 77 = .inr (4, [.int (nI 0), .int (nI n), .int (nI t), .int (nI 1), .ref (ad 78), .ref (ad 79), .ref (ad 80), .ref (ad 81), .ref (ad 82), .ref (ad 83), .int (nI qu), .ref (ad 84), .ref (ad 85), .ref (ad 86), .int (nI en), .int (nI kp), .ref (ad 87), .long hs]) := by rw [hu_6]; exact va_up_self _ _ _
  have hc_9 : w_7 78 = .inl (cZ, 17, .inl dz) := by rw [hu_6, va_up_ne _ _ (by decide)]; exact hDz
  have hc_10 : w_7 79 = .inl (cZ, 17, .inl oz) := by rw [hu_6, va_up_ne _ _ (by decide)]; exact hOz
  have hc_11 : w_7 80 = .inl (cJ, 289, .inr (.inl cf)) := by rw [hu_6, va_up_ne _ _ (by decide)]; exact hCf
  have hc_12 : w_7 81 = .inl (cJ, 289, .inr (.inl mf)) := by rw [hu_6, va_up_ne _ _ (by decide)]; exact hMf
  have hc_13 : w_7 82 = .inl (cJ, 289, .inr (.inl sf)) := by rw [hu_6, va_up_ne _ _ (by decide)]; exact hSf
  have hc_14 : w_7 83 = .inl (cZ, 289, .inl xf) := by rw [hu_6, va_up_ne _ _ (by decide)]; exact hXf
  have hc_15 : w_7 84 = .inl (cJ, 17, .inr (.inl kyf)) := by rw [hu_6, va_up_ne _ _ (by decide)]; exact hKy
  have hc_16 : w_7 85 = .inl (cJ, 17, .inr (.inl swf)) := by rw [hu_6, va_up_ne _ _ (by decide)]; exact hSw
  have hc_17 : w_7 86 = .inl (cJ, 301, .inr (.inl vlf)) := by rw [hu_6, va_up_ne _ _ (by decide)]; exact hVl
  have hc_18 : w_7 87 = .inl (cJ, 17, .inr (.inl plf)) := by rw [hu_6, va_up_ne _ _ (by decide)]; exact hPl
  refine lv_if_eq (tgt := 42) hx hb dX5_says_37 (by decide) (fun q_19 => ?_) (fun q_19 => absurd (by decide) q_19)
  have hs1 := syP_lt ks vs en k; have hs2 := syC_lt ks vs en k; have hs3 := syZ_lt ks vs en k
  refine lv_aload_n hx hb dX5_says_42 rfl (lv_at hl 0 rfl) ?_
  refine lv_iload_n hx hb dX5_says_43 rfl (lv_at hl 1 rfl) ?_
  refine lv_iload_n hx hb dX5_says_44 rfl (lv_at hl 2 rfl) ?_
  refine x_callW1 (As := [.int (nI k), .int (nI 1)]) (rest := []) hC vf_X5_126 hw hA (by decide) hc_8 rfl rfl (k5_said1 l _ _ _ _ _ _ _ _ kyf swf vlf (vs en) hen (hvl rfl en (Nat.le_refl _)) k (ks k) (4 ^ ks k % 2147483579) (by omega) (hks rfl k (by omega)).1 (hks rfl k (by omega)).2 ((hclv rfl).1 k (by omega)) (Nat.lt_trans (Nat.mod_lt _ (by decide)) (by decide)) hc_8 hc_15 hc_16 hc_17) ⟨rfl, rfl, Nat.le_of_ble_eq_true rfl, Nat.le_of_ble_eq_true rfl⟩ hl.1 (Nat.le_of_ble_eq_true rfl) dX5_says_45 ⟨Nat.zero_le _, Nat.zero_le _⟩ rfl (fun w_21 H locs hu_20 hw => ?_)
  obtain ⟨hs9, hu_20⟩ := hu_20
  have hc_22 : w_21 77 = .inr (4, [.int (nI 0), .int (nI n), .int (nI t), .int (nI 1), .ref (ad 78), .ref (ad 79), .ref (ad 80), .ref (ad 81), .ref (ad 82), .ref (ad 83), .int (nI qu), .ref (ad 84), .ref (ad 85), .ref (ad 86), .int (nI en), .int (nI kp), .ref (ad 87), .long hs9]) := by rw [hu_20]; exact va_up_self _ _ _
  have hc_23 : w_21 78 = .inl (cZ, 17, .inl dz) := by rw [hu_20, va_up_ne _ _ (by decide)]; exact hc_9
  have hc_24 : w_21 79 = .inl (cZ, 17, .inl oz) := by rw [hu_20, va_up_ne _ _ (by decide)]; exact hc_10
  have hc_25 : w_21 80 = .inl (cJ, 289, .inr (.inl cf)) := by rw [hu_20, va_up_ne _ _ (by decide)]; exact hc_11
  have hc_26 : w_21 81 = .inl (cJ, 289, .inr (.inl mf)) := by rw [hu_20, va_up_ne _ _ (by decide)]; exact hc_12
  have hc_27 : w_21 82 = .inl (cJ, 289, .inr (.inl sf)) := by rw [hu_20, va_up_ne _ _ (by decide)]; exact hc_13
  have hc_28 : w_21 83 = .inl (cZ, 289, .inl xf) := by rw [hu_20, va_up_ne _ _ (by decide)]; exact hc_14
  have hc_29 : w_21 84 = .inl (cJ, 17, .inr (.inl kyf)) := by rw [hu_20, va_up_ne _ _ (by decide)]; exact hc_15
  have hc_30 : w_21 85 = .inl (cJ, 17, .inr (.inl swf)) := by rw [hu_20, va_up_ne _ _ (by decide)]; exact hc_16
  have hc_31 : w_21 86 = .inl (cJ, 301, .inr (.inl vlf)) := by rw [hu_20, va_up_ne _ _ (by decide)]; exact hc_17
  have hc_32 : w_21 87 = .inl (cJ, 17, .inr (.inl plf)) := by rw [hu_20, va_up_ne _ _ (by decide)]; exact hc_18
  refine lv_l2i hx hb dX5_says_48 (lN_i _) ?_
  have hfr : ∀ z, z ≠ 77 → w_21 z = w z := fun z hhfr0 => by rw [hu_20, va_up_ne _ _ hhfr0, hu_6, va_up_ne _ _ hhfr0]
  exact x_wretI hx hb hr hlocks hw ⟨fun z hz => hfr z (by omega), RM.set77 hRM hfr hc_22⟩ dX5_says_49
set_option maxHeartbeats 4000000 in
set_option maxRecDepth 100000 in
theorem m_says2 (l : Launch) {D : va_G} {cI cJ cZ cD : ClassId} {ad : Nat → Nat} {w : Nat → va_E} {sz : Nat} (n t cl qu en kp : Nat) (dl ou cp ks pt : Nat → Nat) (co sh : Nat → Nat → Nat) (vs : Nat → Int64) (cd : Int32) (hok : OkS n t cl qu en kp dl ou cp ks pt co sh) (hRM : RM ad cJ cZ w cd n t cl qu en kp dl ou cp ks pt co sh vs) (k : Nat) (hk1 : 1 ≤ k) (hk2 : k ≤ n) (hcl0 : cl = 1)  : MW l yX5_says (.code yX5_says cX5_says 3 (some .int)) ({ frames := 4, cells := 0, slots := 0, locals := 128 }) [.ref (ad 77), .int (nI k), .int (nI 2)] D (tyL cI cJ cZ cD) ad 89 w sz (some (.int (nI (syZ ks vs en k)))) (fun u => (∀ z, z < 77 ∨ 87 < z → u z = w z) ∧ RM ad cJ cZ u (nI 0) n t 1 qu en kp dl ou cp ks pt co sh vs) := by
  refine MW.of (by decide) (Nat.le_of_ble_eq_true rfl) ?_
  intro p e s m below meth c ls hC hr hlocks hl hw
  obtain ⟨hx, hb, hml, hown, hts⟩ := id hC
  have hA : ∀ q, s.heap.size ≤ q → xA ad 89 s.heap.size q := fun q h => Or.inr h
  have hl : lv_has ls 3 [(0, .ref (ad 77)), (1, .int (nI k)), (2, .int (nI 2))] := hl
  obtain ⟨⟨hs, hM⟩, ⟨dz, oz, hDz, hOz, hdo⟩, ⟨cf, mf, sf, hCf, hMf, hSf, hcs⟩, ⟨xf, hXf, hxx⟩, ⟨kyf, swf, hKy, hSw, hks⟩, ⟨vlf, hVl, hvl⟩, ⟨plf, hPl, hpl⟩⟩ := id hRM
  obtain ⟨⟨hn, ht, hcl, hqu, hen, hkp⟩, hle, ⟨hqb, hkb, hcb⟩, hvals, hclv, hptl, ⟨hz1, hz2, hz3⟩⟩ := id hok
  subst hcl0
  refine lv_aload_n hx hb dX5_says_0 rfl (lv_at hl 0 rfl) ?_
  refine lv_aload_n hx hb dX5_says_1 rfl (lv_at hl 0 rfl) ?_
  refine gf_X5_71 hx hb hts hown hw (by decide) hM rfl dX5_says_2 ?_
  refine lv_if_ne (tgt := 12) hx hb dX5_says_5 (by decide) (fun q_1 => ?_) (fun q_1 => absurd q_1 (by decide))
  refine lv_aload_n hx hb dX5_says_12 rfl (lv_at hl 0 rfl) ?_
  refine lv_iload_n hx hb dX5_says_13 rfl (lv_at hl 1 rfl) ?_
  refine x_callW1 (As := [.int (nI k)]) (rest := [.ref (ad 77)]) hC vf_X5_84 hw hA (by decide) hM rfl rfl (k5_isNode l _ _ _ _ _ _ _ _ hn k hk1 hk2 hM) ⟨rfl, rfl, Nat.le_of_ble_eq_true rfl, Nat.le_of_ble_eq_true rfl⟩ hl.1 (Nat.le_of_ble_eq_true rfl) dX5_says_14 ⟨Nat.zero_le _, Nat.zero_le _⟩ rfl (fun w_2 H locs hu hw => ?_)
  rw [hu] at hw
  refine lv_if_eq (tgt := 29) hx hb dX5_says_17 (by decide) (fun q_3 => absurd q_3 (by decide)) (fun q_3 => ?_)
  refine lv_iload_n hx hb dX5_says_20 rfl (lv_at hl 2 rfl) ?_
  refine lv_if_lt (tgt := 29) hx hb dX5_says_21 (by decide) (fun q_4 => absurd q_4 (by decide)) (fun q_4 => ?_)
  refine lv_iload_n hx hb dX5_says_24 rfl (lv_at hl 2 rfl) ?_
  refine lv_iconst (v := nI 2) hx hb dX5_says_25 (by decide) ?_
  refine lv_icmp_le (tgt := 33) hx hb dX5_says_26 (by decide) (fun q_5 => ?_) (fun q_5 => absurd (by decide) q_5)
  refine lv_iconst (v := nI 0) hx hb dX5_says_33 (by decide) ?_
  refine x_callW1 (As := [.int (nI 0)]) (rest := []) hC vf_X5_64 hw hA (by decide) hM rfl rfl (k5_refuses0 l _ _ _ _ _ _ _ _ hM) ⟨rfl, rfl, Nat.le_of_ble_eq_true rfl, Nat.le_of_ble_eq_true rfl⟩ hl.1 (Nat.le_of_ble_eq_true rfl) dX5_says_34 ⟨Nat.zero_le _, Nat.zero_le _⟩ rfl (fun w_7 H locs hu_6 hw => ?_)
  have hc_8 : w_7 77 = .inr (4, [.int (nI 0), .int (nI n), .int (nI t), .int (nI 1), .ref (ad 78), .ref (ad 79), .ref (ad 80), .ref (ad 81), .ref (ad 82), .ref (ad 83), .int (nI qu), .ref (ad 84), .ref (ad 85), .ref (ad 86), .int (nI en), .int (nI kp), .ref (ad 87), .long hs]) := by rw [hu_6]; exact va_up_self _ _ _
  have hc_9 : w_7 78 = .inl (cZ, 17, .inl dz) := by rw [hu_6, va_up_ne _ _ (by decide)]; exact hDz
  have hc_10 : w_7 79 = .inl (cZ, 17, .inl oz) := by rw [hu_6, va_up_ne _ _ (by decide)]; exact hOz
  have hc_11 : w_7 80 = .inl (cJ, 289, .inr (.inl cf)) := by rw [hu_6, va_up_ne _ _ (by decide)]; exact hCf
  have hc_12 : w_7 81 = .inl (cJ, 289, .inr (.inl mf)) := by rw [hu_6, va_up_ne _ _ (by decide)]; exact hMf
  have hc_13 : w_7 82 = .inl (cJ, 289, .inr (.inl sf)) := by rw [hu_6, va_up_ne _ _ (by decide)]; exact hSf
  have hc_14 : w_7 83 = .inl (cZ, 289, .inl xf) := by rw [hu_6, va_up_ne _ _ (by decide)]; exact hXf
  have hc_15 : w_7 84 = .inl (cJ, 17, .inr (.inl kyf)) := by rw [hu_6, va_up_ne _ _ (by decide)]; exact hKy
  have hc_16 : w_7 85 = .inl (cJ, 17, .inr (.inl swf)) := by rw [hu_6, va_up_ne _ _ (by decide)]; exact hSw
  have hc_17 : w_7 86 = .inl (cJ, 301, .inr (.inl vlf)) := by rw [hu_6, va_up_ne _ _ (by decide)]; exact hVl
  have hc_18 : w_7 87 = .inl (cJ, 17, .inr (.inl plf)) := by rw [hu_6, va_up_ne _ _ (by decide)]; exact hPl
  refine lv_if_eq (tgt := 42) hx hb dX5_says_37 (by decide) (fun q_19 => ?_) (fun q_19 => absurd (by decide) q_19)
  have hs1 := syP_lt ks vs en k; have hs2 := syC_lt ks vs en k; have hs3 := syZ_lt ks vs en k
  refine lv_aload_n hx hb dX5_says_42 rfl (lv_at hl 0 rfl) ?_
  refine lv_iload_n hx hb dX5_says_43 rfl (lv_at hl 1 rfl) ?_
  refine lv_iload_n hx hb dX5_says_44 rfl (lv_at hl 2 rfl) ?_
  refine x_callW1 (As := [.int (nI k), .int (nI 2)]) (rest := []) hC vf_X5_126 hw hA (by decide) hc_8 rfl rfl (k5_said2 l _ _ _ _ _ _ _ _ kyf swf vlf (vs en) hen (hvl rfl en (Nat.le_refl _)) k (ks k) (4 ^ ks k % 2147483579) (by omega) (hks rfl k (by omega)).1 (hks rfl k (by omega)).2 ((hclv rfl).1 k (by omega)) (Nat.lt_trans (Nat.mod_lt _ (by decide)) (by decide)) hc_8 hc_15 hc_16 hc_17) ⟨rfl, rfl, Nat.le_of_ble_eq_true rfl, Nat.le_of_ble_eq_true rfl⟩ hl.1 (Nat.le_of_ble_eq_true rfl) dX5_says_45 ⟨Nat.zero_le _, Nat.zero_le _⟩ rfl (fun w_21 H locs hu_20 hw => ?_)
  obtain ⟨hs9, hu_20⟩ := hu_20
  have hc_22 : w_21 77 = .inr (4, [.int (nI 0), .int (nI n), .int (nI t), .int (nI 1), .ref (ad 78), .ref (ad 79), .ref (ad 80), .ref (ad 81), .ref (ad 82), .ref (ad 83), .int (nI qu), .ref (ad 84), .ref (ad 85), .ref (ad 86), .int (nI en), .int (nI kp), .ref (ad 87), .long hs9]) := by rw [hu_20]; exact va_up_self _ _ _
  have hc_23 : w_21 78 = .inl (cZ, 17, .inl dz) := by rw [hu_20, va_up_ne _ _ (by decide)]; exact hc_9
  have hc_24 : w_21 79 = .inl (cZ, 17, .inl oz) := by rw [hu_20, va_up_ne _ _ (by decide)]; exact hc_10
  have hc_25 : w_21 80 = .inl (cJ, 289, .inr (.inl cf)) := by rw [hu_20, va_up_ne _ _ (by decide)]; exact hc_11
  have hc_26 : w_21 81 = .inl (cJ, 289, .inr (.inl mf)) := by rw [hu_20, va_up_ne _ _ (by decide)]; exact hc_12
  have hc_27 : w_21 82 = .inl (cJ, 289, .inr (.inl sf)) := by rw [hu_20, va_up_ne _ _ (by decide)]; exact hc_13
  have hc_28 : w_21 83 = .inl (cZ, 289, .inl xf) := by rw [hu_20, va_up_ne _ _ (by decide)]; exact hc_14
  have hc_29 : w_21 84 = .inl (cJ, 17, .inr (.inl kyf)) := by rw [hu_20, va_up_ne _ _ (by decide)]; exact hc_15
  have hc_30 : w_21 85 = .inl (cJ, 17, .inr (.inl swf)) := by rw [hu_20, va_up_ne _ _ (by decide)]; exact hc_16
  have hc_31 : w_21 86 = .inl (cJ, 301, .inr (.inl vlf)) := by rw [hu_20, va_up_ne _ _ (by decide)]; exact hc_17
  have hc_32 : w_21 87 = .inl (cJ, 17, .inr (.inl plf)) := by rw [hu_20, va_up_ne _ _ (by decide)]; exact hc_18
  refine lv_l2i hx hb dX5_says_48 (lN_i _) ?_
  have hfr : ∀ z, z ≠ 77 → w_21 z = w z := fun z hhfr0 => by rw [hu_20, va_up_ne _ _ hhfr0, hu_6, va_up_ne _ _ hhfr0]
  exact x_wretI hx hb hr hlocks hw ⟨fun z hz => hfr z (by omega), RM.set77 hRM hfr hc_22⟩ dX5_says_49
set_option maxHeartbeats 4000000 in
set_option maxRecDepth 100000 in
theorem m_saysS (l : Launch) {D : va_G} {cI cJ cZ cD : ClassId} {ad : Nat → Nat} {w : Nat → va_E} {sz : Nat} (n t cl qu en kp : Nat) (dl ou cp ks pt : Nat → Nat) (co sh : Nat → Nat → Nat) (vs : Nat → Int64) (cd : Int32) (hok : OkS n t cl qu en kp dl ou cp ks pt co sh) (hRM : RM ad cJ cZ w cd n t cl qu en kp dl ou cp ks pt co sh vs) (x y : Int32) (hcl0 : cl = 0)  : MW l yX5_says (.code yX5_says cX5_says 3 (some .int)) ({ frames := 4, cells := 0, slots := 0, locals := 128 }) [.ref (ad 77), .int x, .int y] D (tyL cI cJ cZ cD) ad 89 w sz (some (.int (nI 0))) (fun u => (∀ z, z < 77 ∨ 87 < z → u z = w z) ∧ RM ad cJ cZ u (nI 1) n t 0 qu en kp dl ou cp ks pt co sh vs) := by
  refine MW.of (by decide) (Nat.le_of_ble_eq_true rfl) ?_
  intro p e s m below meth c ls hC hr hlocks hl hw
  obtain ⟨hx, hb, hml, hown, hts⟩ := id hC
  have hA : ∀ q, s.heap.size ≤ q → xA ad 89 s.heap.size q := fun q h => Or.inr h
  have hl : lv_has ls 3 [(0, .ref (ad 77)), (1, .int x), (2, .int y)] := hl
  obtain ⟨⟨hs, hM⟩, ⟨dz, oz, hDz, hOz, hdo⟩, ⟨cf, mf, sf, hCf, hMf, hSf, hcs⟩, ⟨xf, hXf, hxx⟩, ⟨kyf, swf, hKy, hSw, hks⟩, ⟨vlf, hVl, hvl⟩, ⟨plf, hPl, hpl⟩⟩ := id hRM
  obtain ⟨⟨hn, ht, hcl, hqu, hen, hkp⟩, hle, ⟨hqb, hkb, hcb⟩, hvals, hclv, hptl, ⟨hz1, hz2, hz3⟩⟩ := id hok
  subst hcl0
  refine lv_aload_n hx hb dX5_says_0 rfl (lv_at hl 0 rfl) ?_
  refine lv_aload_n hx hb dX5_says_1 rfl (lv_at hl 0 rfl) ?_
  refine gf_X5_71 hx hb hts hown hw (by decide) hM rfl dX5_says_2 ?_
  refine lv_if_ne (tgt := 12) hx hb dX5_says_5 (by decide) (fun q_1 => absurd (by decide) q_1) (fun q_1 => ?_)
  refine lv_iconst (v := nI 1) hx hb dX5_says_8 (by decide) ?_
  refine lv_goto (tgt := 34) hx hb dX5_says_9 (by decide) ?_
  refine x_callW1 (As := [.int (nI 1)]) (rest := []) hC vf_X5_64 hw hA (by decide) hM rfl rfl (k5_refuses1 l _ _ _ _ _ _ _ _ hM) ⟨rfl, rfl, Nat.le_of_ble_eq_true rfl, Nat.le_of_ble_eq_true rfl⟩ hl.1 (Nat.le_of_ble_eq_true rfl) dX5_says_34 ⟨Nat.zero_le _, Nat.zero_le _⟩ rfl (fun w_3 H locs hu_2 hw => ?_)
  have hc_4 : w_3 77 = .inr (4, [.int (nI 1), .int (nI n), .int (nI t), .int (nI 0), .ref (ad 78), .ref (ad 79), .ref (ad 80), .ref (ad 81), .ref (ad 82), .ref (ad 83), .int (nI qu), .ref (ad 84), .ref (ad 85), .ref (ad 86), .int (nI en), .int (nI kp), .ref (ad 87), .long hs]) := by rw [hu_2]; exact va_up_self _ _ _
  have hc_5 : w_3 78 = .inl (cZ, 17, .inl dz) := by rw [hu_2, va_up_ne _ _ (by decide)]; exact hDz
  have hc_6 : w_3 79 = .inl (cZ, 17, .inl oz) := by rw [hu_2, va_up_ne _ _ (by decide)]; exact hOz
  have hc_7 : w_3 80 = .inl (cJ, 289, .inr (.inl cf)) := by rw [hu_2, va_up_ne _ _ (by decide)]; exact hCf
  have hc_8 : w_3 81 = .inl (cJ, 289, .inr (.inl mf)) := by rw [hu_2, va_up_ne _ _ (by decide)]; exact hMf
  have hc_9 : w_3 82 = .inl (cJ, 289, .inr (.inl sf)) := by rw [hu_2, va_up_ne _ _ (by decide)]; exact hSf
  have hc_10 : w_3 83 = .inl (cZ, 289, .inl xf) := by rw [hu_2, va_up_ne _ _ (by decide)]; exact hXf
  have hc_11 : w_3 84 = .inl (cJ, 17, .inr (.inl kyf)) := by rw [hu_2, va_up_ne _ _ (by decide)]; exact hKy
  have hc_12 : w_3 85 = .inl (cJ, 17, .inr (.inl swf)) := by rw [hu_2, va_up_ne _ _ (by decide)]; exact hSw
  have hc_13 : w_3 86 = .inl (cJ, 301, .inr (.inl vlf)) := by rw [hu_2, va_up_ne _ _ (by decide)]; exact hVl
  have hc_14 : w_3 87 = .inl (cJ, 17, .inr (.inl plf)) := by rw [hu_2, va_up_ne _ _ (by decide)]; exact hPl
  refine lv_if_eq (tgt := 42) hx hb dX5_says_37 (by decide) (fun q_15 => absurd q_15 (by decide)) (fun q_15 => ?_)
  refine lv_iconst (v := nI 0) hx hb dX5_says_40 (by decide) ?_
  have hfr : ∀ z, z ≠ 77 → w_3 z = w z := fun z hhfr0 => by rw [hu_2, va_up_ne _ _ hhfr0]
  exact x_wretI hx hb hr hlocks hw ⟨fun z hz => hfr z (by omega), RM.set77 hRM hfr hc_4⟩ dX5_says_41
set_option maxHeartbeats 4000000 in
set_option maxRecDepth 100000 in
theorem m_saysA (l : Launch) {D : va_G} {cI cJ cZ cD : ClassId} {ad : Nat → Nat} {w : Nat → va_E} {sz : Nat} (n t cl qu en kp : Nat) (dl ou cp ks pt : Nat → Nat) (co sh : Nat → Nat → Nat) (vs : Nat → Int64) (cd : Int32) (hok : OkS n t cl qu en kp dl ou cp ks pt co sh) (hRM : RM ad cJ cZ w cd n t cl qu en kp dl ou cp ks pt co sh vs) (x y : Int32) (hcl0 : cl = 1) (hbad : ¬ (isNd n x ∧ ¬ y < 0 ∧ y ≤ nI 2))  : MW l yX5_says (.code yX5_says cX5_says 3 (some .int)) ({ frames := 4, cells := 0, slots := 0, locals := 128 }) [.ref (ad 77), .int x, .int y] D (tyL cI cJ cZ cD) ad 89 w sz (some (.int (nI 0))) (fun u => (∀ z, z < 77 ∨ 87 < z → u z = w z) ∧ RM ad cJ cZ u (nI 2) n t 1 qu en kp dl ou cp ks pt co sh vs) := by
  refine MW.of (by decide) (Nat.le_of_ble_eq_true rfl) ?_
  intro p e s m below meth c ls hC hr hlocks hl hw
  obtain ⟨hx, hb, hml, hown, hts⟩ := id hC
  have hA : ∀ q, s.heap.size ≤ q → xA ad 89 s.heap.size q := fun q h => Or.inr h
  have hl : lv_has ls 3 [(0, .ref (ad 77)), (1, .int x), (2, .int y)] := hl
  obtain ⟨⟨hs, hM⟩, ⟨dz, oz, hDz, hOz, hdo⟩, ⟨cf, mf, sf, hCf, hMf, hSf, hcs⟩, ⟨xf, hXf, hxx⟩, ⟨kyf, swf, hKy, hSw, hks⟩, ⟨vlf, hVl, hvl⟩, ⟨plf, hPl, hpl⟩⟩ := id hRM
  obtain ⟨⟨hn, ht, hcl, hqu, hen, hkp⟩, hle, ⟨hqb, hkb, hcb⟩, hvals, hclv, hptl, ⟨hz1, hz2, hz3⟩⟩ := id hok
  subst hcl0
  refine lv_aload_n hx hb dX5_says_0 rfl (lv_at hl 0 rfl) ?_
  refine lv_aload_n hx hb dX5_says_1 rfl (lv_at hl 0 rfl) ?_
  refine gf_X5_71 hx hb hts hown hw (by decide) hM rfl dX5_says_2 ?_
  refine lv_if_ne (tgt := 12) hx hb dX5_says_5 (by decide) (fun q_1 => ?_) (fun q_1 => absurd q_1 (by decide))
  by_cases c1 : isNd n x
  · skip
    obtain ⟨k, hk1, hk2, rfl⟩ := isNd_of hn c1
    refine lv_aload_n hx hb dX5_says_12 rfl (lv_at hl 0 rfl) ?_
    refine lv_iload_n hx hb dX5_says_13 rfl (lv_at hl 1 rfl) ?_
    refine x_callW1 (As := [.int (nI k)]) (rest := [.ref (ad 77)]) hC vf_X5_84 hw hA (by decide) hM rfl rfl (k5_isNode l _ _ _ _ _ _ _ _ hn k hk1 hk2 hM) ⟨rfl, rfl, Nat.le_of_ble_eq_true rfl, Nat.le_of_ble_eq_true rfl⟩ hl.1 (Nat.le_of_ble_eq_true rfl) dX5_says_14 ⟨Nat.zero_le _, Nat.zero_le _⟩ rfl (fun w_2 H locs hu hw => ?_)
    rw [hu] at hw
    refine lv_if_eq (tgt := 29) hx hb dX5_says_17 (by decide) (fun q_3 => absurd q_3 (by decide)) (fun q_3 => ?_)
    refine lv_iload_n hx hb dX5_says_20 rfl (lv_at hl 2 rfl) ?_
    refine lv_if_lt (tgt := 29) hx hb dX5_says_21 (by decide) (fun q1 => ?_) (fun q1 => ?_)
    · skip
      refine lv_iconst (v := nI 2) hx hb dX5_says_29 (by decide) ?_
      refine lv_goto (tgt := 34) hx hb dX5_says_30 (by decide) ?_
      refine x_callW1 (As := [.int (nI 2)]) (rest := []) hC vf_X5_64 hw hA (by decide) hM rfl rfl (k5_refuses2 l _ _ _ _ _ _ _ _ hM) ⟨rfl, rfl, Nat.le_of_ble_eq_true rfl, Nat.le_of_ble_eq_true rfl⟩ hl.1 (Nat.le_of_ble_eq_true rfl) dX5_says_34 ⟨Nat.zero_le _, Nat.zero_le _⟩ rfl (fun w_5 H locs hu_4 hw => ?_)
      have hc_6 : w_5 77 = .inr (4, [.int (nI 2), .int (nI n), .int (nI t), .int (nI 1), .ref (ad 78), .ref (ad 79), .ref (ad 80), .ref (ad 81), .ref (ad 82), .ref (ad 83), .int (nI qu), .ref (ad 84), .ref (ad 85), .ref (ad 86), .int (nI en), .int (nI kp), .ref (ad 87), .long hs]) := by rw [hu_4]; exact va_up_self _ _ _
      have hc_7 : w_5 78 = .inl (cZ, 17, .inl dz) := by rw [hu_4, va_up_ne _ _ (by decide)]; exact hDz
      have hc_8 : w_5 79 = .inl (cZ, 17, .inl oz) := by rw [hu_4, va_up_ne _ _ (by decide)]; exact hOz
      have hc_9 : w_5 80 = .inl (cJ, 289, .inr (.inl cf)) := by rw [hu_4, va_up_ne _ _ (by decide)]; exact hCf
      have hc_10 : w_5 81 = .inl (cJ, 289, .inr (.inl mf)) := by rw [hu_4, va_up_ne _ _ (by decide)]; exact hMf
      have hc_11 : w_5 82 = .inl (cJ, 289, .inr (.inl sf)) := by rw [hu_4, va_up_ne _ _ (by decide)]; exact hSf
      have hc_12 : w_5 83 = .inl (cZ, 289, .inl xf) := by rw [hu_4, va_up_ne _ _ (by decide)]; exact hXf
      have hc_13 : w_5 84 = .inl (cJ, 17, .inr (.inl kyf)) := by rw [hu_4, va_up_ne _ _ (by decide)]; exact hKy
      have hc_14 : w_5 85 = .inl (cJ, 17, .inr (.inl swf)) := by rw [hu_4, va_up_ne _ _ (by decide)]; exact hSw
      have hc_15 : w_5 86 = .inl (cJ, 301, .inr (.inl vlf)) := by rw [hu_4, va_up_ne _ _ (by decide)]; exact hVl
      have hc_16 : w_5 87 = .inl (cJ, 17, .inr (.inl plf)) := by rw [hu_4, va_up_ne _ _ (by decide)]; exact hPl
      refine lv_if_eq (tgt := 42) hx hb dX5_says_37 (by decide) (fun q_17 => absurd q_17 (by decide)) (fun q_17 => ?_)
      refine lv_iconst (v := nI 0) hx hb dX5_says_40 (by decide) ?_
      have hfr : ∀ z, z ≠ 77 → w_5 z = w z := fun z hhfr0 => by rw [hu_4, va_up_ne _ _ hhfr0]
      exact x_wretI hx hb hr hlocks hw ⟨fun z hz => hfr z (by omega), RM.set77 hRM hfr hc_6⟩ dX5_says_41
    · skip
      refine lv_iload_n hx hb dX5_says_24 rfl (lv_at hl 2 rfl) ?_
      refine lv_iconst (v := nI 2) hx hb dX5_says_25 (by decide) ?_
      refine lv_icmp_le (tgt := 33) hx hb dX5_says_26 (by decide) (fun q2 => absurd q2 (fun q => hbad ⟨c1, q1, q⟩)) (fun q2 => ?_)
      refine lv_iconst (v := nI 2) hx hb dX5_says_29 (by decide) ?_
      refine lv_goto (tgt := 34) hx hb dX5_says_30 (by decide) ?_
      refine x_callW1 (As := [.int (nI 2)]) (rest := []) hC vf_X5_64 hw hA (by decide) hM rfl rfl (k5_refuses2 l _ _ _ _ _ _ _ _ hM) ⟨rfl, rfl, Nat.le_of_ble_eq_true rfl, Nat.le_of_ble_eq_true rfl⟩ hl.1 (Nat.le_of_ble_eq_true rfl) dX5_says_34 ⟨Nat.zero_le _, Nat.zero_le _⟩ rfl (fun w_19 H locs hu_18 hw => ?_)
      have hc_20 : w_19 77 = .inr (4, [.int (nI 2), .int (nI n), .int (nI t), .int (nI 1), .ref (ad 78), .ref (ad 79), .ref (ad 80), .ref (ad 81), .ref (ad 82), .ref (ad 83), .int (nI qu), .ref (ad 84), .ref (ad 85), .ref (ad 86), .int (nI en), .int (nI kp), .ref (ad 87), .long hs]) := by rw [hu_18]; exact va_up_self _ _ _
      have hc_21 : w_19 78 = .inl (cZ, 17, .inl dz) := by rw [hu_18, va_up_ne _ _ (by decide)]; exact hDz
      have hc_22 : w_19 79 = .inl (cZ, 17, .inl oz) := by rw [hu_18, va_up_ne _ _ (by decide)]; exact hOz
      have hc_23 : w_19 80 = .inl (cJ, 289, .inr (.inl cf)) := by rw [hu_18, va_up_ne _ _ (by decide)]; exact hCf
      have hc_24 : w_19 81 = .inl (cJ, 289, .inr (.inl mf)) := by rw [hu_18, va_up_ne _ _ (by decide)]; exact hMf
      have hc_25 : w_19 82 = .inl (cJ, 289, .inr (.inl sf)) := by rw [hu_18, va_up_ne _ _ (by decide)]; exact hSf
      have hc_26 : w_19 83 = .inl (cZ, 289, .inl xf) := by rw [hu_18, va_up_ne _ _ (by decide)]; exact hXf
      have hc_27 : w_19 84 = .inl (cJ, 17, .inr (.inl kyf)) := by rw [hu_18, va_up_ne _ _ (by decide)]; exact hKy
      have hc_28 : w_19 85 = .inl (cJ, 17, .inr (.inl swf)) := by rw [hu_18, va_up_ne _ _ (by decide)]; exact hSw
      have hc_29 : w_19 86 = .inl (cJ, 301, .inr (.inl vlf)) := by rw [hu_18, va_up_ne _ _ (by decide)]; exact hVl
      have hc_30 : w_19 87 = .inl (cJ, 17, .inr (.inl plf)) := by rw [hu_18, va_up_ne _ _ (by decide)]; exact hPl
      refine lv_if_eq (tgt := 42) hx hb dX5_says_37 (by decide) (fun q_31 => absurd q_31 (by decide)) (fun q_31 => ?_)
      refine lv_iconst (v := nI 0) hx hb dX5_says_40 (by decide) ?_
      have hfr : ∀ z, z ≠ 77 → w_19 z = w z := fun z hhfr0 => by rw [hu_18, va_up_ne _ _ hhfr0]
      exact x_wretI hx hb hr hlocks hw ⟨fun z hz => hfr z (by omega), RM.set77 hRM hfr hc_20⟩ dX5_says_41
  · skip
    refine lv_aload_n hx hb dX5_says_12 rfl (lv_at hl 0 rfl) ?_
    refine lv_iload_n hx hb dX5_says_13 rfl (lv_at hl 1 rfl) ?_
    refine x_callW1 (As := [.int x]) (rest := [.ref (ad 77)]) hC vf_X5_84 hw hA (by decide) hM rfl rfl (k5_isNodeN l _ _ _ _ _ _ _ _ x c1 hM) ⟨rfl, rfl, Nat.le_of_ble_eq_true rfl, Nat.le_of_ble_eq_true rfl⟩ hl.1 (Nat.le_of_ble_eq_true rfl) dX5_says_14 ⟨Nat.zero_le _, Nat.zero_le _⟩ rfl (fun w_32 H locs hu hw => ?_)
    rw [hu] at hw
    refine lv_if_eq (tgt := 29) hx hb dX5_says_17 (by decide) (fun q_33 => ?_) (fun q_33 => absurd (by decide) q_33)
    refine lv_iconst (v := nI 2) hx hb dX5_says_29 (by decide) ?_
    refine lv_goto (tgt := 34) hx hb dX5_says_30 (by decide) ?_
    refine x_callW1 (As := [.int (nI 2)]) (rest := []) hC vf_X5_64 hw hA (by decide) hM rfl rfl (k5_refuses2 l _ _ _ _ _ _ _ _ hM) ⟨rfl, rfl, Nat.le_of_ble_eq_true rfl, Nat.le_of_ble_eq_true rfl⟩ hl.1 (Nat.le_of_ble_eq_true rfl) dX5_says_34 ⟨Nat.zero_le _, Nat.zero_le _⟩ rfl (fun w_35 H locs hu_34 hw => ?_)
    have hc_36 : w_35 77 = .inr (4, [.int (nI 2), .int (nI n), .int (nI t), .int (nI 1), .ref (ad 78), .ref (ad 79), .ref (ad 80), .ref (ad 81), .ref (ad 82), .ref (ad 83), .int (nI qu), .ref (ad 84), .ref (ad 85), .ref (ad 86), .int (nI en), .int (nI kp), .ref (ad 87), .long hs]) := by rw [hu_34]; exact va_up_self _ _ _
    have hc_37 : w_35 78 = .inl (cZ, 17, .inl dz) := by rw [hu_34, va_up_ne _ _ (by decide)]; exact hDz
    have hc_38 : w_35 79 = .inl (cZ, 17, .inl oz) := by rw [hu_34, va_up_ne _ _ (by decide)]; exact hOz
    have hc_39 : w_35 80 = .inl (cJ, 289, .inr (.inl cf)) := by rw [hu_34, va_up_ne _ _ (by decide)]; exact hCf
    have hc_40 : w_35 81 = .inl (cJ, 289, .inr (.inl mf)) := by rw [hu_34, va_up_ne _ _ (by decide)]; exact hMf
    have hc_41 : w_35 82 = .inl (cJ, 289, .inr (.inl sf)) := by rw [hu_34, va_up_ne _ _ (by decide)]; exact hSf
    have hc_42 : w_35 83 = .inl (cZ, 289, .inl xf) := by rw [hu_34, va_up_ne _ _ (by decide)]; exact hXf
    have hc_43 : w_35 84 = .inl (cJ, 17, .inr (.inl kyf)) := by rw [hu_34, va_up_ne _ _ (by decide)]; exact hKy
    have hc_44 : w_35 85 = .inl (cJ, 17, .inr (.inl swf)) := by rw [hu_34, va_up_ne _ _ (by decide)]; exact hSw
    have hc_45 : w_35 86 = .inl (cJ, 301, .inr (.inl vlf)) := by rw [hu_34, va_up_ne _ _ (by decide)]; exact hVl
    have hc_46 : w_35 87 = .inl (cJ, 17, .inr (.inl plf)) := by rw [hu_34, va_up_ne _ _ (by decide)]; exact hPl
    refine lv_if_eq (tgt := 42) hx hb dX5_says_37 (by decide) (fun q_47 => absurd q_47 (by decide)) (fun q_47 => ?_)
    refine lv_iconst (v := nI 0) hx hb dX5_says_40 (by decide) ?_
    have hfr : ∀ z, z ≠ 77 → w_35 z = w z := fun z hhfr0 => by rw [hu_34, va_up_ne _ _ hhfr0]
    exact x_wretI hx hb hr hlocks hw ⟨fun z hz => hfr z (by omega), RM.set77 hRM hfr hc_36⟩ dX5_says_41
set_option maxHeartbeats 4000000 in
set_option maxRecDepth 100000 in
theorem m_offerS (l : Launch) {D : va_G} {cI cJ cZ cD : ClassId} {ad : Nat → Nat} {w : Nat → va_E} {sz : Nat} (n t cl qu en kp : Nat) (dl ou cp ks pt : Nat → Nat) (co sh : Nat → Nat → Nat) (vs : Nat → Int64) (cd : Int32) (hok : OkS n t cl qu en kp dl ou cp ks pt co sh) (hRM : RM ad cJ cZ w cd n t cl qu en kp dl ou cp ks pt co sh vs) (x y b1 b2 b3 : Int32) (hcl0 : cl = 0)  : MW l yX5_offer (.code yX5_offer cX5_offer 12 (some .boolean)) ({ frames := 4, cells := 0, slots := 0, locals := 144 }) [.ref (ad 77), .int x, .int y, .int b1, .int b2, .int b3] D (tyL cI cJ cZ cD) ad 89 w sz (some (.int (nI 0))) (fun u => (∀ z, z < 77 ∨ 87 < z → u z = w z) ∧ RM ad cJ cZ u (nI 1) n t 0 qu en kp dl ou cp ks pt co sh vs) := by
  refine MW.of (by decide) (Nat.le_of_ble_eq_true rfl) ?_
  intro p e s m below meth c ls hC hr hlocks hl hw
  obtain ⟨hx, hb, hml, hown, hts⟩ := id hC
  have hA : ∀ q, s.heap.size ≤ q → xA ad 89 s.heap.size q := fun q h => Or.inr h
  have hl : lv_has ls 12 [(0, .ref (ad 77)), (1, .int x), (2, .int y), (3, .int b1), (4, .int b2), (5, .int b3)] := hl
  obtain ⟨⟨hs, hM⟩, ⟨dz, oz, hDz, hOz, hdo⟩, ⟨cf, mf, sf, hCf, hMf, hSf, hcs⟩, ⟨xf, hXf, hxx⟩, ⟨kyf, swf, hKy, hSw, hks⟩, ⟨vlf, hVl, hvl⟩, ⟨plf, hPl, hpl⟩⟩ := id hRM
  obtain ⟨⟨hn, ht, hcl, hqu, hen, hkp⟩, hle, ⟨hqb, hkb, hcb⟩, hvals, hclv, hptl, ⟨hz1, hz2, hz3⟩⟩ := id hok
  subst hcl0
  refine lv_aload_n hx hb dX5_offer_0 rfl (lv_at hl 0 rfl) ?_
  refine lv_aload_n hx hb dX5_offer_1 rfl (lv_at hl 0 rfl) ?_
  refine gf_X5_71 hx hb hts hown hw (by decide) hM rfl dX5_offer_2 ?_
  refine lv_if_ne (tgt := 12) hx hb dX5_offer_5 (by decide) (fun q_1 => absurd (by decide) q_1) (fun q_1 => ?_)
  refine lv_iconst (v := nI 1) hx hb dX5_offer_8 (by decide) ?_
  refine lv_goto (tgt := 33) hx hb dX5_offer_9 (by decide) ?_
  refine x_callW1 (As := [.int (nI 1)]) (rest := []) hC vf_X5_64 hw hA (by decide) hM rfl rfl (k5_refuses1 l _ _ _ _ _ _ _ _ hM) ⟨rfl, rfl, Nat.le_of_ble_eq_true rfl, Nat.le_of_ble_eq_true rfl⟩ hl.1 (Nat.le_of_ble_eq_true rfl) dX5_offer_33 ⟨Nat.zero_le _, Nat.zero_le _⟩ rfl (fun w_3 H locs hu_2 hw => ?_)
  have hc_4 : w_3 77 = .inr (4, [.int (nI 1), .int (nI n), .int (nI t), .int (nI 0), .ref (ad 78), .ref (ad 79), .ref (ad 80), .ref (ad 81), .ref (ad 82), .ref (ad 83), .int (nI qu), .ref (ad 84), .ref (ad 85), .ref (ad 86), .int (nI en), .int (nI kp), .ref (ad 87), .long hs]) := by rw [hu_2]; exact va_up_self _ _ _
  have hc_5 : w_3 78 = .inl (cZ, 17, .inl dz) := by rw [hu_2, va_up_ne _ _ (by decide)]; exact hDz
  have hc_6 : w_3 79 = .inl (cZ, 17, .inl oz) := by rw [hu_2, va_up_ne _ _ (by decide)]; exact hOz
  have hc_7 : w_3 80 = .inl (cJ, 289, .inr (.inl cf)) := by rw [hu_2, va_up_ne _ _ (by decide)]; exact hCf
  have hc_8 : w_3 81 = .inl (cJ, 289, .inr (.inl mf)) := by rw [hu_2, va_up_ne _ _ (by decide)]; exact hMf
  have hc_9 : w_3 82 = .inl (cJ, 289, .inr (.inl sf)) := by rw [hu_2, va_up_ne _ _ (by decide)]; exact hSf
  have hc_10 : w_3 83 = .inl (cZ, 289, .inl xf) := by rw [hu_2, va_up_ne _ _ (by decide)]; exact hXf
  have hc_11 : w_3 84 = .inl (cJ, 17, .inr (.inl kyf)) := by rw [hu_2, va_up_ne _ _ (by decide)]; exact hKy
  have hc_12 : w_3 85 = .inl (cJ, 17, .inr (.inl swf)) := by rw [hu_2, va_up_ne _ _ (by decide)]; exact hSw
  have hc_13 : w_3 86 = .inl (cJ, 301, .inr (.inl vlf)) := by rw [hu_2, va_up_ne _ _ (by decide)]; exact hVl
  have hc_14 : w_3 87 = .inl (cJ, 17, .inr (.inl plf)) := by rw [hu_2, va_up_ne _ _ (by decide)]; exact hPl
  refine lv_if_eq (tgt := 41) hx hb dX5_offer_36 (by decide) (fun q_15 => absurd q_15 (by decide)) (fun q_15 => ?_)
  refine lv_iconst (v := nI 0) hx hb dX5_offer_39 (by decide) ?_
  have hfr : ∀ z, z ≠ 77 → w_3 z = w z := fun z hhfr0 => by rw [hu_2, va_up_ne _ _ hhfr0]
  exact x_wretZ hx hb hr hlocks (by decide) hw ⟨fun z hz => hfr z (by omega), RM.set77 hRM hfr hc_4⟩ dX5_offer_40
set_option maxHeartbeats 4000000 in
set_option maxRecDepth 100000 in
theorem m_offerA (l : Launch) {D : va_G} {cI cJ cZ cD : ClassId} {ad : Nat → Nat} {w : Nat → va_E} {sz : Nat} (n t cl qu en kp : Nat) (dl ou cp ks pt : Nat → Nat) (co sh : Nat → Nat → Nat) (vs : Nat → Int64) (cd : Int32) (hok : OkS n t cl qu en kp dl ou cp ks pt co sh) (hRM : RM ad cJ cZ w cd n t cl qu en kp dl ou cp ks pt co sh vs) (x y b1 b2 b3 : Int32) (hcl0 : cl = 1) (hbad : ¬ (isNd n x ∧ isNd n y))  : MW l yX5_offer (.code yX5_offer cX5_offer 12 (some .boolean)) ({ frames := 4, cells := 0, slots := 0, locals := 144 }) [.ref (ad 77), .int x, .int y, .int b1, .int b2, .int b3] D (tyL cI cJ cZ cD) ad 89 w sz (some (.int (nI 0))) (fun u => (∀ z, z < 77 ∨ 87 < z → u z = w z) ∧ RM ad cJ cZ u (nI 2) n t 1 qu en kp dl ou cp ks pt co sh vs) := by
  refine MW.of (by decide) (Nat.le_of_ble_eq_true rfl) ?_
  intro p e s m below meth c ls hC hr hlocks hl hw
  obtain ⟨hx, hb, hml, hown, hts⟩ := id hC
  have hA : ∀ q, s.heap.size ≤ q → xA ad 89 s.heap.size q := fun q h => Or.inr h
  have hl : lv_has ls 12 [(0, .ref (ad 77)), (1, .int x), (2, .int y), (3, .int b1), (4, .int b2), (5, .int b3)] := hl
  obtain ⟨⟨hs, hM⟩, ⟨dz, oz, hDz, hOz, hdo⟩, ⟨cf, mf, sf, hCf, hMf, hSf, hcs⟩, ⟨xf, hXf, hxx⟩, ⟨kyf, swf, hKy, hSw, hks⟩, ⟨vlf, hVl, hvl⟩, ⟨plf, hPl, hpl⟩⟩ := id hRM
  obtain ⟨⟨hn, ht, hcl, hqu, hen, hkp⟩, hle, ⟨hqb, hkb, hcb⟩, hvals, hclv, hptl, ⟨hz1, hz2, hz3⟩⟩ := id hok
  subst hcl0
  refine lv_aload_n hx hb dX5_offer_0 rfl (lv_at hl 0 rfl) ?_
  refine lv_aload_n hx hb dX5_offer_1 rfl (lv_at hl 0 rfl) ?_
  refine gf_X5_71 hx hb hts hown hw (by decide) hM rfl dX5_offer_2 ?_
  refine lv_if_ne (tgt := 12) hx hb dX5_offer_5 (by decide) (fun q_1 => ?_) (fun q_1 => absurd q_1 (by decide))
  by_cases c1 : isNd n x
  · skip
    obtain ⟨k, hk1, hk2, rfl⟩ := isNd_of hn c1
    refine lv_aload_n hx hb dX5_offer_12 rfl (lv_at hl 0 rfl) ?_
    refine lv_iload_n hx hb dX5_offer_13 rfl (lv_at hl 1 rfl) ?_
    refine x_callW1 (As := [.int (nI k)]) (rest := [.ref (ad 77)]) hC vf_X5_84 hw hA (by decide) hM rfl rfl (k5_isNode l _ _ _ _ _ _ _ _ hn k hk1 hk2 hM) ⟨rfl, rfl, Nat.le_of_ble_eq_true rfl, Nat.le_of_ble_eq_true rfl⟩ hl.1 (Nat.le_of_ble_eq_true rfl) dX5_offer_14 ⟨Nat.zero_le _, Nat.zero_le _⟩ rfl (fun w_2 H locs hu hw => ?_)
    rw [hu] at hw
    refine lv_if_eq (tgt := 28) hx hb dX5_offer_17 (by decide) (fun q_3 => absurd q_3 (by decide)) (fun q_3 => ?_)
    refine lv_aload_n hx hb dX5_offer_20 rfl (lv_at hl 0 rfl) ?_
    refine lv_iload_n hx hb dX5_offer_21 rfl (lv_at hl 2 rfl) ?_
    refine x_callW1 (As := [.int y]) (rest := [.ref (ad 77)]) hC vf_X5_84 hw hA (by decide) hM rfl rfl (k5_isNodeN l _ _ _ _ _ _ _ _ y (fun q => hbad ⟨c1, q⟩) hM) ⟨rfl, rfl, Nat.le_of_ble_eq_true rfl, Nat.le_of_ble_eq_true rfl⟩ hl.1 (Nat.le_of_ble_eq_true rfl) dX5_offer_22 ⟨Nat.zero_le _, Nat.zero_le _⟩ rfl (fun w_4 H locs hu hw => ?_)
    rw [hu] at hw
    refine lv_if_ne (tgt := 32) hx hb dX5_offer_25 (by decide) (fun q_5 => absurd (by decide) q_5) (fun q_5 => ?_)
    refine lv_iconst (v := nI 2) hx hb dX5_offer_28 (by decide) ?_
    refine lv_goto (tgt := 33) hx hb dX5_offer_29 (by decide) ?_
    refine x_callW1 (As := [.int (nI 2)]) (rest := []) hC vf_X5_64 hw hA (by decide) hM rfl rfl (k5_refuses2 l _ _ _ _ _ _ _ _ hM) ⟨rfl, rfl, Nat.le_of_ble_eq_true rfl, Nat.le_of_ble_eq_true rfl⟩ hl.1 (Nat.le_of_ble_eq_true rfl) dX5_offer_33 ⟨Nat.zero_le _, Nat.zero_le _⟩ rfl (fun w_7 H locs hu_6 hw => ?_)
    have hc_8 : w_7 77 = .inr (4, [.int (nI 2), .int (nI n), .int (nI t), .int (nI 1), .ref (ad 78), .ref (ad 79), .ref (ad 80), .ref (ad 81), .ref (ad 82), .ref (ad 83), .int (nI qu), .ref (ad 84), .ref (ad 85), .ref (ad 86), .int (nI en), .int (nI kp), .ref (ad 87), .long hs]) := by rw [hu_6]; exact va_up_self _ _ _
    have hc_9 : w_7 78 = .inl (cZ, 17, .inl dz) := by rw [hu_6, va_up_ne _ _ (by decide)]; exact hDz
    have hc_10 : w_7 79 = .inl (cZ, 17, .inl oz) := by rw [hu_6, va_up_ne _ _ (by decide)]; exact hOz
    have hc_11 : w_7 80 = .inl (cJ, 289, .inr (.inl cf)) := by rw [hu_6, va_up_ne _ _ (by decide)]; exact hCf
    have hc_12 : w_7 81 = .inl (cJ, 289, .inr (.inl mf)) := by rw [hu_6, va_up_ne _ _ (by decide)]; exact hMf
    have hc_13 : w_7 82 = .inl (cJ, 289, .inr (.inl sf)) := by rw [hu_6, va_up_ne _ _ (by decide)]; exact hSf
    have hc_14 : w_7 83 = .inl (cZ, 289, .inl xf) := by rw [hu_6, va_up_ne _ _ (by decide)]; exact hXf
    have hc_15 : w_7 84 = .inl (cJ, 17, .inr (.inl kyf)) := by rw [hu_6, va_up_ne _ _ (by decide)]; exact hKy
    have hc_16 : w_7 85 = .inl (cJ, 17, .inr (.inl swf)) := by rw [hu_6, va_up_ne _ _ (by decide)]; exact hSw
    have hc_17 : w_7 86 = .inl (cJ, 301, .inr (.inl vlf)) := by rw [hu_6, va_up_ne _ _ (by decide)]; exact hVl
    have hc_18 : w_7 87 = .inl (cJ, 17, .inr (.inl plf)) := by rw [hu_6, va_up_ne _ _ (by decide)]; exact hPl
    refine lv_if_eq (tgt := 41) hx hb dX5_offer_36 (by decide) (fun q_19 => absurd q_19 (by decide)) (fun q_19 => ?_)
    refine lv_iconst (v := nI 0) hx hb dX5_offer_39 (by decide) ?_
    have hfr : ∀ z, z ≠ 77 → w_7 z = w z := fun z hhfr0 => by rw [hu_6, va_up_ne _ _ hhfr0]
    exact x_wretZ hx hb hr hlocks (by decide) hw ⟨fun z hz => hfr z (by omega), RM.set77 hRM hfr hc_8⟩ dX5_offer_40
  · skip
    refine lv_aload_n hx hb dX5_offer_12 rfl (lv_at hl 0 rfl) ?_
    refine lv_iload_n hx hb dX5_offer_13 rfl (lv_at hl 1 rfl) ?_
    refine x_callW1 (As := [.int x]) (rest := [.ref (ad 77)]) hC vf_X5_84 hw hA (by decide) hM rfl rfl (k5_isNodeN l _ _ _ _ _ _ _ _ x c1 hM) ⟨rfl, rfl, Nat.le_of_ble_eq_true rfl, Nat.le_of_ble_eq_true rfl⟩ hl.1 (Nat.le_of_ble_eq_true rfl) dX5_offer_14 ⟨Nat.zero_le _, Nat.zero_le _⟩ rfl (fun w_20 H locs hu hw => ?_)
    rw [hu] at hw
    refine lv_if_eq (tgt := 28) hx hb dX5_offer_17 (by decide) (fun q_21 => ?_) (fun q_21 => absurd (by decide) q_21)
    refine lv_iconst (v := nI 2) hx hb dX5_offer_28 (by decide) ?_
    refine lv_goto (tgt := 33) hx hb dX5_offer_29 (by decide) ?_
    refine x_callW1 (As := [.int (nI 2)]) (rest := []) hC vf_X5_64 hw hA (by decide) hM rfl rfl (k5_refuses2 l _ _ _ _ _ _ _ _ hM) ⟨rfl, rfl, Nat.le_of_ble_eq_true rfl, Nat.le_of_ble_eq_true rfl⟩ hl.1 (Nat.le_of_ble_eq_true rfl) dX5_offer_33 ⟨Nat.zero_le _, Nat.zero_le _⟩ rfl (fun w_23 H locs hu_22 hw => ?_)
    have hc_24 : w_23 77 = .inr (4, [.int (nI 2), .int (nI n), .int (nI t), .int (nI 1), .ref (ad 78), .ref (ad 79), .ref (ad 80), .ref (ad 81), .ref (ad 82), .ref (ad 83), .int (nI qu), .ref (ad 84), .ref (ad 85), .ref (ad 86), .int (nI en), .int (nI kp), .ref (ad 87), .long hs]) := by rw [hu_22]; exact va_up_self _ _ _
    have hc_25 : w_23 78 = .inl (cZ, 17, .inl dz) := by rw [hu_22, va_up_ne _ _ (by decide)]; exact hDz
    have hc_26 : w_23 79 = .inl (cZ, 17, .inl oz) := by rw [hu_22, va_up_ne _ _ (by decide)]; exact hOz
    have hc_27 : w_23 80 = .inl (cJ, 289, .inr (.inl cf)) := by rw [hu_22, va_up_ne _ _ (by decide)]; exact hCf
    have hc_28 : w_23 81 = .inl (cJ, 289, .inr (.inl mf)) := by rw [hu_22, va_up_ne _ _ (by decide)]; exact hMf
    have hc_29 : w_23 82 = .inl (cJ, 289, .inr (.inl sf)) := by rw [hu_22, va_up_ne _ _ (by decide)]; exact hSf
    have hc_30 : w_23 83 = .inl (cZ, 289, .inl xf) := by rw [hu_22, va_up_ne _ _ (by decide)]; exact hXf
    have hc_31 : w_23 84 = .inl (cJ, 17, .inr (.inl kyf)) := by rw [hu_22, va_up_ne _ _ (by decide)]; exact hKy
    have hc_32 : w_23 85 = .inl (cJ, 17, .inr (.inl swf)) := by rw [hu_22, va_up_ne _ _ (by decide)]; exact hSw
    have hc_33 : w_23 86 = .inl (cJ, 301, .inr (.inl vlf)) := by rw [hu_22, va_up_ne _ _ (by decide)]; exact hVl
    have hc_34 : w_23 87 = .inl (cJ, 17, .inr (.inl plf)) := by rw [hu_22, va_up_ne _ _ (by decide)]; exact hPl
    refine lv_if_eq (tgt := 41) hx hb dX5_offer_36 (by decide) (fun q_35 => absurd q_35 (by decide)) (fun q_35 => ?_)
    refine lv_iconst (v := nI 0) hx hb dX5_offer_39 (by decide) ?_
    have hfr : ∀ z, z ≠ 77 → w_23 z = w z := fun z hhfr0 => by rw [hu_22, va_up_ne _ _ hhfr0]
    exact x_wretZ hx hb hr hlocks (by decide) hw ⟨fun z hz => hfr z (by omega), RM.set77 hRM hfr hc_24⟩ dX5_offer_40
set_option maxHeartbeats 4000000 in
set_option maxRecDepth 100000 in
theorem m_offerR (l : Launch) {D : va_G} {cI cJ cZ cD : ClassId} {ad : Nat → Nat} {w : Nat → va_E} {sz : Nat} (n t cl qu en kp : Nat) (dl ou cp ks pt : Nat → Nat) (co sh : Nat → Nat → Nat) (vs : Nat → Int64) (cd : Int32) (hok : OkS n t cl qu en kp dl ou cp ks pt co sh) (hRM : RM ad cJ cZ w cd n t cl qu en kp dl ou cp ks pt co sh vs) (k f : Nat) (hk1 : 1 ≤ k) (hk2 : k ≤ n) (hf1 : 1 ≤ f) (hf2 : f ≤ n) (b1 b2 b3 : Int32) (hcl0 : cl = 1) (hno : ¬ (inr (syP ks vs en f) b1 ∧ inr (syC ks vs en f) b2 ∧ inr (syZ ks vs en f) b3))  : MW l yX5_offer (.code yX5_offer cX5_offer 12 (some .boolean)) ({ frames := 4, cells := 0, slots := 0, locals := 144 }) [.ref (ad 77), .int (nI k), .int (nI f), .int b1, .int b2, .int b3] D (tyL cI cJ cZ cD) ad 89 w sz (some (.int (nI 0))) (fun u => (∀ z, z < 77 ∨ 87 < z → u z = w z) ∧ RM ad cJ cZ u (nI 0) n t 1 qu en kp dl ou cp ks pt co sh vs) := by
  refine MW.of (by decide) (Nat.le_of_ble_eq_true rfl) ?_
  intro p e s m below meth c ls hC hr hlocks hl hw
  obtain ⟨hx, hb, hml, hown, hts⟩ := id hC
  have hA : ∀ q, s.heap.size ≤ q → xA ad 89 s.heap.size q := fun q h => Or.inr h
  have hl : lv_has ls 12 [(0, .ref (ad 77)), (1, .int (nI k)), (2, .int (nI f)), (3, .int b1), (4, .int b2), (5, .int b3)] := hl
  obtain ⟨⟨hs, hM⟩, ⟨dz, oz, hDz, hOz, hdo⟩, ⟨cf, mf, sf, hCf, hMf, hSf, hcs⟩, ⟨xf, hXf, hxx⟩, ⟨kyf, swf, hKy, hSw, hks⟩, ⟨vlf, hVl, hvl⟩, ⟨plf, hPl, hpl⟩⟩ := id hRM
  obtain ⟨⟨hn, ht, hcl, hqu, hen, hkp⟩, hle, ⟨hqb, hkb, hcb⟩, hvals, hclv, hptl, ⟨hz1, hz2, hz3⟩⟩ := id hok
  subst hcl0
  refine lv_aload_n hx hb dX5_offer_0 rfl (lv_at hl 0 rfl) ?_
  refine lv_aload_n hx hb dX5_offer_1 rfl (lv_at hl 0 rfl) ?_
  refine gf_X5_71 hx hb hts hown hw (by decide) hM rfl dX5_offer_2 ?_
  refine lv_if_ne (tgt := 12) hx hb dX5_offer_5 (by decide) (fun q_1 => ?_) (fun q_1 => absurd q_1 (by decide))
  refine lv_aload_n hx hb dX5_offer_12 rfl (lv_at hl 0 rfl) ?_
  refine lv_iload_n hx hb dX5_offer_13 rfl (lv_at hl 1 rfl) ?_
  refine x_callW1 (As := [.int (nI k)]) (rest := [.ref (ad 77)]) hC vf_X5_84 hw hA (by decide) hM rfl rfl (k5_isNode l _ _ _ _ _ _ _ _ hn k hk1 hk2 hM) ⟨rfl, rfl, Nat.le_of_ble_eq_true rfl, Nat.le_of_ble_eq_true rfl⟩ hl.1 (Nat.le_of_ble_eq_true rfl) dX5_offer_14 ⟨Nat.zero_le _, Nat.zero_le _⟩ rfl (fun w_2 H locs hu hw => ?_)
  rw [hu] at hw
  refine lv_if_eq (tgt := 28) hx hb dX5_offer_17 (by decide) (fun q_3 => absurd q_3 (by decide)) (fun q_3 => ?_)
  refine lv_aload_n hx hb dX5_offer_20 rfl (lv_at hl 0 rfl) ?_
  refine lv_iload_n hx hb dX5_offer_21 rfl (lv_at hl 2 rfl) ?_
  refine x_callW1 (As := [.int (nI f)]) (rest := [.ref (ad 77)]) hC vf_X5_84 hw hA (by decide) hM rfl rfl (k5_isNode l _ _ _ _ _ _ _ _ hn f hf1 hf2 hM) ⟨rfl, rfl, Nat.le_of_ble_eq_true rfl, Nat.le_of_ble_eq_true rfl⟩ hl.1 (Nat.le_of_ble_eq_true rfl) dX5_offer_22 ⟨Nat.zero_le _, Nat.zero_le _⟩ rfl (fun w_4 H locs hu hw => ?_)
  rw [hu] at hw
  refine lv_if_ne (tgt := 32) hx hb dX5_offer_25 (by decide) (fun q_5 => ?_) (fun q_5 => absurd q_5 (by decide))
  refine lv_iconst (v := nI 0) hx hb dX5_offer_32 (by decide) ?_
  refine x_callW1 (As := [.int (nI 0)]) (rest := []) hC vf_X5_64 hw hA (by decide) hM rfl rfl (k5_refuses0 l _ _ _ _ _ _ _ _ hM) ⟨rfl, rfl, Nat.le_of_ble_eq_true rfl, Nat.le_of_ble_eq_true rfl⟩ hl.1 (Nat.le_of_ble_eq_true rfl) dX5_offer_33 ⟨Nat.zero_le _, Nat.zero_le _⟩ rfl (fun w_7 H locs hu_6 hw => ?_)
  have hc_8 : w_7 77 = .inr (4, [.int (nI 0), .int (nI n), .int (nI t), .int (nI 1), .ref (ad 78), .ref (ad 79), .ref (ad 80), .ref (ad 81), .ref (ad 82), .ref (ad 83), .int (nI qu), .ref (ad 84), .ref (ad 85), .ref (ad 86), .int (nI en), .int (nI kp), .ref (ad 87), .long hs]) := by rw [hu_6]; exact va_up_self _ _ _
  have hc_9 : w_7 78 = .inl (cZ, 17, .inl dz) := by rw [hu_6, va_up_ne _ _ (by decide)]; exact hDz
  have hc_10 : w_7 79 = .inl (cZ, 17, .inl oz) := by rw [hu_6, va_up_ne _ _ (by decide)]; exact hOz
  have hc_11 : w_7 80 = .inl (cJ, 289, .inr (.inl cf)) := by rw [hu_6, va_up_ne _ _ (by decide)]; exact hCf
  have hc_12 : w_7 81 = .inl (cJ, 289, .inr (.inl mf)) := by rw [hu_6, va_up_ne _ _ (by decide)]; exact hMf
  have hc_13 : w_7 82 = .inl (cJ, 289, .inr (.inl sf)) := by rw [hu_6, va_up_ne _ _ (by decide)]; exact hSf
  have hc_14 : w_7 83 = .inl (cZ, 289, .inl xf) := by rw [hu_6, va_up_ne _ _ (by decide)]; exact hXf
  have hc_15 : w_7 84 = .inl (cJ, 17, .inr (.inl kyf)) := by rw [hu_6, va_up_ne _ _ (by decide)]; exact hKy
  have hc_16 : w_7 85 = .inl (cJ, 17, .inr (.inl swf)) := by rw [hu_6, va_up_ne _ _ (by decide)]; exact hSw
  have hc_17 : w_7 86 = .inl (cJ, 301, .inr (.inl vlf)) := by rw [hu_6, va_up_ne _ _ (by decide)]; exact hVl
  have hc_18 : w_7 87 = .inl (cJ, 17, .inr (.inl plf)) := by rw [hu_6, va_up_ne _ _ (by decide)]; exact hPl
  refine lv_if_eq (tgt := 41) hx hb dX5_offer_36 (by decide) (fun q_19 => ?_) (fun q_19 => absurd (by decide) q_19)
  have hs1 := syP_lt ks vs en f; have hs2 := syC_lt ks vs en f; have hs3 := syZ_lt ks vs en f
  refine lv_aload_n hx hb dX5_offer_41 rfl (lv_at hl 0 rfl) ?_
  refine lv_iload_n hx hb dX5_offer_42 rfl (lv_at hl 2 rfl) ?_
  refine lv_iconst (v := nI 0) hx hb dX5_offer_43 (by decide) ?_
  refine x_callW1 (As := [.int (nI f), .int (nI 0)]) (rest := []) hC vf_X5_126 hw hA (by decide) hc_8 rfl rfl (k5_said0 l _ _ _ _ _ _ _ _ kyf swf vlf (vs en) hen (hvl rfl en (Nat.le_refl _)) f (ks f) (4 ^ ks f % 2147483579) (by omega) (hks rfl f (by omega)).1 (hks rfl f (by omega)).2 ((hclv rfl).1 f (by omega)) (Nat.lt_trans (Nat.mod_lt _ (by decide)) (by decide)) hc_8 hc_15 hc_16 hc_17) ⟨rfl, rfl, Nat.le_of_ble_eq_true rfl, Nat.le_of_ble_eq_true rfl⟩ hl.1 (Nat.le_of_ble_eq_true rfl) dX5_offer_44 ⟨Nat.zero_le _, Nat.zero_le _⟩ rfl (fun w_21 H locs hu_20 hw => ?_)
  obtain ⟨hs5, hu_20⟩ := hu_20
  have hc_22 : w_21 77 = .inr (4, [.int (nI 0), .int (nI n), .int (nI t), .int (nI 1), .ref (ad 78), .ref (ad 79), .ref (ad 80), .ref (ad 81), .ref (ad 82), .ref (ad 83), .int (nI qu), .ref (ad 84), .ref (ad 85), .ref (ad 86), .int (nI en), .int (nI kp), .ref (ad 87), .long hs5]) := by rw [hu_20]; exact va_up_self _ _ _
  have hc_23 : w_21 78 = .inl (cZ, 17, .inl dz) := by rw [hu_20, va_up_ne _ _ (by decide)]; exact hc_9
  have hc_24 : w_21 79 = .inl (cZ, 17, .inl oz) := by rw [hu_20, va_up_ne _ _ (by decide)]; exact hc_10
  have hc_25 : w_21 80 = .inl (cJ, 289, .inr (.inl cf)) := by rw [hu_20, va_up_ne _ _ (by decide)]; exact hc_11
  have hc_26 : w_21 81 = .inl (cJ, 289, .inr (.inl mf)) := by rw [hu_20, va_up_ne _ _ (by decide)]; exact hc_12
  have hc_27 : w_21 82 = .inl (cJ, 289, .inr (.inl sf)) := by rw [hu_20, va_up_ne _ _ (by decide)]; exact hc_13
  have hc_28 : w_21 83 = .inl (cZ, 289, .inl xf) := by rw [hu_20, va_up_ne _ _ (by decide)]; exact hc_14
  have hc_29 : w_21 84 = .inl (cJ, 17, .inr (.inl kyf)) := by rw [hu_20, va_up_ne _ _ (by decide)]; exact hc_15
  have hc_30 : w_21 85 = .inl (cJ, 17, .inr (.inl swf)) := by rw [hu_20, va_up_ne _ _ (by decide)]; exact hc_16
  have hc_31 : w_21 86 = .inl (cJ, 301, .inr (.inl vlf)) := by rw [hu_20, va_up_ne _ _ (by decide)]; exact hc_17
  have hc_32 : w_21 87 = .inl (cJ, 17, .inr (.inl plf)) := by rw [hu_20, va_up_ne _ _ (by decide)]; exact hc_18
  rw [show basF (msgF (vs en) en) ^ ks f % 2147483579 = syP ks vs en f from rfl]
  refine lv_iload_n hx hb dX5_offer_47 rfl (lv_at hl 3 rfl) ?_
  refine lv_i2l hx hb dX5_offer_48 rfl ?_
  refine lv_ladd hx hb dX5_offer_49 ?_
  refine lv_lstore (lv' := [(6, .long ((lN (syP ks vs en f)) + b1.toInt64)), (0, .ref (ad 77)), (1, .int (nI k)), (2, .int (nI f)), (3, .int b1), (4, .int b2), (5, .int b3)]) hx hb dX5_offer_50 hl (by decide) rfl (fun ls hl => ?_)
  refine lv_aload_n hx hb dX5_offer_52 rfl (lv_at hl 1 rfl) ?_
  refine lv_iload_n hx hb dX5_offer_53 rfl (lv_at hl 3 rfl) ?_
  refine lv_iconst (v := nI 1) hx hb dX5_offer_54 (by decide) ?_
  refine x_callW1 (As := [.int (nI f), .int (nI 1)]) (rest := []) hC vf_X5_126 hw hA (by decide) hc_22 rfl rfl (k5_said1 l _ _ _ _ _ _ _ _ kyf swf vlf (vs en) hen (hvl rfl en (Nat.le_refl _)) f (ks f) (4 ^ ks f % 2147483579) (by omega) (hks rfl f (by omega)).1 (hks rfl f (by omega)).2 ((hclv rfl).1 f (by omega)) (Nat.lt_trans (Nat.mod_lt _ (by decide)) (by decide)) hc_22 hc_29 hc_30 hc_31) ⟨rfl, rfl, Nat.le_of_ble_eq_true rfl, Nat.le_of_ble_eq_true rfl⟩ hl.1 (Nat.le_of_ble_eq_true rfl) dX5_offer_55 ⟨Nat.zero_le _, Nat.zero_le _⟩ rfl (fun w_34 H locs hu_33 hw => ?_)
  obtain ⟨hs6, hu_33⟩ := hu_33
  have hc_35 : w_34 77 = .inr (4, [.int (nI 0), .int (nI n), .int (nI t), .int (nI 1), .ref (ad 78), .ref (ad 79), .ref (ad 80), .ref (ad 81), .ref (ad 82), .ref (ad 83), .int (nI qu), .ref (ad 84), .ref (ad 85), .ref (ad 86), .int (nI en), .int (nI kp), .ref (ad 87), .long hs6]) := by rw [hu_33]; exact va_up_self _ _ _
  have hc_36 : w_34 78 = .inl (cZ, 17, .inl dz) := by rw [hu_33, va_up_ne _ _ (by decide)]; exact hc_23
  have hc_37 : w_34 79 = .inl (cZ, 17, .inl oz) := by rw [hu_33, va_up_ne _ _ (by decide)]; exact hc_24
  have hc_38 : w_34 80 = .inl (cJ, 289, .inr (.inl cf)) := by rw [hu_33, va_up_ne _ _ (by decide)]; exact hc_25
  have hc_39 : w_34 81 = .inl (cJ, 289, .inr (.inl mf)) := by rw [hu_33, va_up_ne _ _ (by decide)]; exact hc_26
  have hc_40 : w_34 82 = .inl (cJ, 289, .inr (.inl sf)) := by rw [hu_33, va_up_ne _ _ (by decide)]; exact hc_27
  have hc_41 : w_34 83 = .inl (cZ, 289, .inl xf) := by rw [hu_33, va_up_ne _ _ (by decide)]; exact hc_28
  have hc_42 : w_34 84 = .inl (cJ, 17, .inr (.inl kyf)) := by rw [hu_33, va_up_ne _ _ (by decide)]; exact hc_29
  have hc_43 : w_34 85 = .inl (cJ, 17, .inr (.inl swf)) := by rw [hu_33, va_up_ne _ _ (by decide)]; exact hc_30
  have hc_44 : w_34 86 = .inl (cJ, 301, .inr (.inl vlf)) := by rw [hu_33, va_up_ne _ _ (by decide)]; exact hc_31
  have hc_45 : w_34 87 = .inl (cJ, 17, .inr (.inl plf)) := by rw [hu_33, va_up_ne _ _ (by decide)]; exact hc_32
  rw [show saC (ks f) (4 ^ ks f % 2147483579) (basF (msgF (vs en) en)) (msgF (vs en) en) = syC ks vs en f from rfl]
  refine lv_iload hx hb dX5_offer_58 (lv_at hl 5 rfl) ?_
  refine lv_i2l hx hb dX5_offer_60 rfl ?_
  refine lv_ladd hx hb dX5_offer_61 ?_
  refine lv_lstore (lv' := [(8, .long ((lN (syC ks vs en f)) + b2.toInt64)), (6, .long ((lN (syP ks vs en f)) + b1.toInt64)), (0, .ref (ad 77)), (1, .int (nI k)), (2, .int (nI f)), (3, .int b1), (4, .int b2), (5, .int b3)]) hx hb dX5_offer_62 hl (by decide) rfl (fun ls hl => ?_)
  refine lv_aload_n hx hb dX5_offer_64 rfl (lv_at hl 2 rfl) ?_
  refine lv_iload_n hx hb dX5_offer_65 rfl (lv_at hl 4 rfl) ?_
  refine lv_iconst (v := nI 2) hx hb dX5_offer_66 (by decide) ?_
  refine x_callW1 (As := [.int (nI f), .int (nI 2)]) (rest := []) hC vf_X5_126 hw hA (by decide) hc_35 rfl rfl (k5_said2 l _ _ _ _ _ _ _ _ kyf swf vlf (vs en) hen (hvl rfl en (Nat.le_refl _)) f (ks f) (4 ^ ks f % 2147483579) (by omega) (hks rfl f (by omega)).1 (hks rfl f (by omega)).2 ((hclv rfl).1 f (by omega)) (Nat.lt_trans (Nat.mod_lt _ (by decide)) (by decide)) hc_35 hc_42 hc_43 hc_44) ⟨rfl, rfl, Nat.le_of_ble_eq_true rfl, Nat.le_of_ble_eq_true rfl⟩ hl.1 (Nat.le_of_ble_eq_true rfl) dX5_offer_67 ⟨Nat.zero_le _, Nat.zero_le _⟩ rfl (fun w_47 H locs hu_46 hw => ?_)
  obtain ⟨hs7, hu_46⟩ := hu_46
  have hc_48 : w_47 77 = .inr (4, [.int (nI 0), .int (nI n), .int (nI t), .int (nI 1), .ref (ad 78), .ref (ad 79), .ref (ad 80), .ref (ad 81), .ref (ad 82), .ref (ad 83), .int (nI qu), .ref (ad 84), .ref (ad 85), .ref (ad 86), .int (nI en), .int (nI kp), .ref (ad 87), .long hs7]) := by rw [hu_46]; exact va_up_self _ _ _
  have hc_49 : w_47 78 = .inl (cZ, 17, .inl dz) := by rw [hu_46, va_up_ne _ _ (by decide)]; exact hc_36
  have hc_50 : w_47 79 = .inl (cZ, 17, .inl oz) := by rw [hu_46, va_up_ne _ _ (by decide)]; exact hc_37
  have hc_51 : w_47 80 = .inl (cJ, 289, .inr (.inl cf)) := by rw [hu_46, va_up_ne _ _ (by decide)]; exact hc_38
  have hc_52 : w_47 81 = .inl (cJ, 289, .inr (.inl mf)) := by rw [hu_46, va_up_ne _ _ (by decide)]; exact hc_39
  have hc_53 : w_47 82 = .inl (cJ, 289, .inr (.inl sf)) := by rw [hu_46, va_up_ne _ _ (by decide)]; exact hc_40
  have hc_54 : w_47 83 = .inl (cZ, 289, .inl xf) := by rw [hu_46, va_up_ne _ _ (by decide)]; exact hc_41
  have hc_55 : w_47 84 = .inl (cJ, 17, .inr (.inl kyf)) := by rw [hu_46, va_up_ne _ _ (by decide)]; exact hc_42
  have hc_56 : w_47 85 = .inl (cJ, 17, .inr (.inl swf)) := by rw [hu_46, va_up_ne _ _ (by decide)]; exact hc_43
  have hc_57 : w_47 86 = .inl (cJ, 301, .inr (.inl vlf)) := by rw [hu_46, va_up_ne _ _ (by decide)]; exact hc_44
  have hc_58 : w_47 87 = .inl (cJ, 17, .inr (.inl plf)) := by rw [hu_46, va_up_ne _ _ (by decide)]; exact hc_45
  rw [show saZ (ks f) (4 ^ ks f % 2147483579) (basF (msgF (vs en) en)) (msgF (vs en) en) = syZ ks vs en f from rfl]
  refine lv_iload hx hb dX5_offer_70 (lv_at hl 7 rfl) ?_
  refine lv_i2l hx hb dX5_offer_72 rfl ?_
  refine lv_ladd hx hb dX5_offer_73 ?_
  refine lv_lstore (lv' := [(10, .long ((lN (syZ ks vs en f)) + b3.toInt64)), (8, .long ((lN (syC ks vs en f)) + b2.toInt64)), (6, .long ((lN (syP ks vs en f)) + b1.toInt64)), (0, .ref (ad 77)), (1, .int (nI k)), (2, .int (nI f)), (3, .int b1), (4, .int b2), (5, .int b3)]) hx hb dX5_offer_74 hl (by decide) rfl (fun ls hl => ?_)
  refine lv_aload_n hx hb dX5_offer_76 rfl (lv_at hl 3 rfl) ?_
  refine lv_iload_n hx hb dX5_offer_77 rfl (lv_at hl 4 rfl) ?_
  refine lv_lload hx hb dX5_offer_78 (lv_at hl 2 rfl) ?_
  refine lv_lload hx hb dX5_offer_80 (lv_at hl 1 rfl) ?_
  refine lv_lload hx hb dX5_offer_82 (lv_at hl 0 rfl) ?_
  refine x_callW1 (As := [.int (nI k), .long ((lN (syP ks vs en f)) + b1.toInt64), .long ((lN (syC ks vs en f)) + b2.toInt64), .long ((lN (syZ ks vs en f)) + b3.toInt64)]) (rest := []) hC vf_X5_133 hw hA (by decide) hc_48 rfl rfl (k5_holdsR l _ _ _ _ _ _ _ _ k (by omega) (lN (syP ks vs en f) + b1.toInt64) (lN (syC ks vs en f) + b2.toInt64) (lN (syZ ks vs en f) + b3.toInt64) (fun q => hno (gd_inr (by omega) (by omega) (by omega) q)) hc_48) ⟨rfl, rfl, Nat.le_of_ble_eq_true rfl, Nat.le_of_ble_eq_true rfl⟩ hl.1 (Nat.le_of_ble_eq_true rfl) dX5_offer_84 ⟨Nat.zero_le _, Nat.zero_le _⟩ rfl (fun w_59 H locs hu hw => ?_)
  rw [hu] at hw
  refine lv_if_eq (tgt := 102) hx hb dX5_offer_87 (by decide) (fun q_60 => ?_) (fun q_60 => absurd (by decide) q_60)
  refine lv_iconst (v := nI 0) hx hb dX5_offer_102 (by decide) ?_
  have hfr : ∀ z, z ≠ 77 → w_47 z = w z := fun z hhfr0 => by rw [hu_46, va_up_ne _ _ hhfr0, hu_33, va_up_ne _ _ hhfr0, hu_20, va_up_ne _ _ hhfr0, hu_6, va_up_ne _ _ hhfr0]
  exact x_wretZ hx hb hr hlocks (by decide) hw ⟨fun z hz => hfr z (by omega), RM.set77 hRM hfr hc_48⟩ dX5_offer_103
set_option maxHeartbeats 4000000 in
set_option maxRecDepth 100000 in
theorem m_offerH (l : Launch) {D : va_G} {cI cJ cZ cD : ClassId} {ad : Nat → Nat} {w : Nat → va_E} {sz : Nat} (n t cl qu en kp : Nat) (dl ou cp ks pt : Nat → Nat) (co sh : Nat → Nat → Nat) (vs : Nat → Int64) (cd : Int32) (hok : OkS n t cl qu en kp dl ou cp ks pt co sh) (hRM : RM ad cJ cZ w cd n t cl qu en kp dl ou cp ks pt co sh vs) (k f : Nat) (hk1 : 1 ≤ k) (hk2 : k ≤ n) (hf1 : 1 ≤ f) (hf2 : f ≤ n) (b1 b2 b3 : Int32) (hcl0 : cl = 1) (a2 x2 y2 : Nat) (g1 : a2 < 2147483648) (g2 : x2 < 2147483648) (g3 : y2 < 2147483648) (e1 : (syP ks vs en f : Int) + b1.toInt = a2) (e2 : (syC ks vs en f : Int) + b2.toInt = x2) (e3 : (syZ ks vs en f : Int) + b3.toInt = y2) (hno : ¬ hldF a2 x2 y2 (4 ^ ks k % 2147483579) (bsF vs en))  : MW l yX5_offer (.code yX5_offer cX5_offer 12 (some .boolean)) ({ frames := 4, cells := 0, slots := 0, locals := 144 }) [.ref (ad 77), .int (nI k), .int (nI f), .int b1, .int b2, .int b3] D (tyL cI cJ cZ cD) ad 89 w sz (some (.int (nI 0))) (fun u => (∀ z, z < 77 ∨ 87 < z → u z = w z) ∧ RM ad cJ cZ u (nI 0) n t 1 qu en kp dl ou cp ks pt co sh vs) := by
  refine MW.of (by decide) (Nat.le_of_ble_eq_true rfl) ?_
  intro p e s m below meth c ls hC hr hlocks hl hw
  obtain ⟨hx, hb, hml, hown, hts⟩ := id hC
  have hA : ∀ q, s.heap.size ≤ q → xA ad 89 s.heap.size q := fun q h => Or.inr h
  have hl : lv_has ls 12 [(0, .ref (ad 77)), (1, .int (nI k)), (2, .int (nI f)), (3, .int b1), (4, .int b2), (5, .int b3)] := hl
  obtain ⟨⟨hs, hM⟩, ⟨dz, oz, hDz, hOz, hdo⟩, ⟨cf, mf, sf, hCf, hMf, hSf, hcs⟩, ⟨xf, hXf, hxx⟩, ⟨kyf, swf, hKy, hSw, hks⟩, ⟨vlf, hVl, hvl⟩, ⟨plf, hPl, hpl⟩⟩ := id hRM
  obtain ⟨⟨hn, ht, hcl, hqu, hen, hkp⟩, hle, ⟨hqb, hkb, hcb⟩, hvals, hclv, hptl, ⟨hz1, hz2, hz3⟩⟩ := id hok
  subst hcl0
  refine lv_aload_n hx hb dX5_offer_0 rfl (lv_at hl 0 rfl) ?_
  refine lv_aload_n hx hb dX5_offer_1 rfl (lv_at hl 0 rfl) ?_
  refine gf_X5_71 hx hb hts hown hw (by decide) hM rfl dX5_offer_2 ?_
  refine lv_if_ne (tgt := 12) hx hb dX5_offer_5 (by decide) (fun q_1 => ?_) (fun q_1 => absurd q_1 (by decide))
  refine lv_aload_n hx hb dX5_offer_12 rfl (lv_at hl 0 rfl) ?_
  refine lv_iload_n hx hb dX5_offer_13 rfl (lv_at hl 1 rfl) ?_
  refine x_callW1 (As := [.int (nI k)]) (rest := [.ref (ad 77)]) hC vf_X5_84 hw hA (by decide) hM rfl rfl (k5_isNode l _ _ _ _ _ _ _ _ hn k hk1 hk2 hM) ⟨rfl, rfl, Nat.le_of_ble_eq_true rfl, Nat.le_of_ble_eq_true rfl⟩ hl.1 (Nat.le_of_ble_eq_true rfl) dX5_offer_14 ⟨Nat.zero_le _, Nat.zero_le _⟩ rfl (fun w_2 H locs hu hw => ?_)
  rw [hu] at hw
  refine lv_if_eq (tgt := 28) hx hb dX5_offer_17 (by decide) (fun q_3 => absurd q_3 (by decide)) (fun q_3 => ?_)
  refine lv_aload_n hx hb dX5_offer_20 rfl (lv_at hl 0 rfl) ?_
  refine lv_iload_n hx hb dX5_offer_21 rfl (lv_at hl 2 rfl) ?_
  refine x_callW1 (As := [.int (nI f)]) (rest := [.ref (ad 77)]) hC vf_X5_84 hw hA (by decide) hM rfl rfl (k5_isNode l _ _ _ _ _ _ _ _ hn f hf1 hf2 hM) ⟨rfl, rfl, Nat.le_of_ble_eq_true rfl, Nat.le_of_ble_eq_true rfl⟩ hl.1 (Nat.le_of_ble_eq_true rfl) dX5_offer_22 ⟨Nat.zero_le _, Nat.zero_le _⟩ rfl (fun w_4 H locs hu hw => ?_)
  rw [hu] at hw
  refine lv_if_ne (tgt := 32) hx hb dX5_offer_25 (by decide) (fun q_5 => ?_) (fun q_5 => absurd q_5 (by decide))
  refine lv_iconst (v := nI 0) hx hb dX5_offer_32 (by decide) ?_
  refine x_callW1 (As := [.int (nI 0)]) (rest := []) hC vf_X5_64 hw hA (by decide) hM rfl rfl (k5_refuses0 l _ _ _ _ _ _ _ _ hM) ⟨rfl, rfl, Nat.le_of_ble_eq_true rfl, Nat.le_of_ble_eq_true rfl⟩ hl.1 (Nat.le_of_ble_eq_true rfl) dX5_offer_33 ⟨Nat.zero_le _, Nat.zero_le _⟩ rfl (fun w_7 H locs hu_6 hw => ?_)
  have hc_8 : w_7 77 = .inr (4, [.int (nI 0), .int (nI n), .int (nI t), .int (nI 1), .ref (ad 78), .ref (ad 79), .ref (ad 80), .ref (ad 81), .ref (ad 82), .ref (ad 83), .int (nI qu), .ref (ad 84), .ref (ad 85), .ref (ad 86), .int (nI en), .int (nI kp), .ref (ad 87), .long hs]) := by rw [hu_6]; exact va_up_self _ _ _
  have hc_9 : w_7 78 = .inl (cZ, 17, .inl dz) := by rw [hu_6, va_up_ne _ _ (by decide)]; exact hDz
  have hc_10 : w_7 79 = .inl (cZ, 17, .inl oz) := by rw [hu_6, va_up_ne _ _ (by decide)]; exact hOz
  have hc_11 : w_7 80 = .inl (cJ, 289, .inr (.inl cf)) := by rw [hu_6, va_up_ne _ _ (by decide)]; exact hCf
  have hc_12 : w_7 81 = .inl (cJ, 289, .inr (.inl mf)) := by rw [hu_6, va_up_ne _ _ (by decide)]; exact hMf
  have hc_13 : w_7 82 = .inl (cJ, 289, .inr (.inl sf)) := by rw [hu_6, va_up_ne _ _ (by decide)]; exact hSf
  have hc_14 : w_7 83 = .inl (cZ, 289, .inl xf) := by rw [hu_6, va_up_ne _ _ (by decide)]; exact hXf
  have hc_15 : w_7 84 = .inl (cJ, 17, .inr (.inl kyf)) := by rw [hu_6, va_up_ne _ _ (by decide)]; exact hKy
  have hc_16 : w_7 85 = .inl (cJ, 17, .inr (.inl swf)) := by rw [hu_6, va_up_ne _ _ (by decide)]; exact hSw
  have hc_17 : w_7 86 = .inl (cJ, 301, .inr (.inl vlf)) := by rw [hu_6, va_up_ne _ _ (by decide)]; exact hVl
  have hc_18 : w_7 87 = .inl (cJ, 17, .inr (.inl plf)) := by rw [hu_6, va_up_ne _ _ (by decide)]; exact hPl
  refine lv_if_eq (tgt := 41) hx hb dX5_offer_36 (by decide) (fun q_19 => ?_) (fun q_19 => absurd (by decide) q_19)
  have hs1 := syP_lt ks vs en f; have hs2 := syC_lt ks vs en f; have hs3 := syZ_lt ks vs en f
  refine lv_aload_n hx hb dX5_offer_41 rfl (lv_at hl 0 rfl) ?_
  refine lv_iload_n hx hb dX5_offer_42 rfl (lv_at hl 2 rfl) ?_
  refine lv_iconst (v := nI 0) hx hb dX5_offer_43 (by decide) ?_
  refine x_callW1 (As := [.int (nI f), .int (nI 0)]) (rest := []) hC vf_X5_126 hw hA (by decide) hc_8 rfl rfl (k5_said0 l _ _ _ _ _ _ _ _ kyf swf vlf (vs en) hen (hvl rfl en (Nat.le_refl _)) f (ks f) (4 ^ ks f % 2147483579) (by omega) (hks rfl f (by omega)).1 (hks rfl f (by omega)).2 ((hclv rfl).1 f (by omega)) (Nat.lt_trans (Nat.mod_lt _ (by decide)) (by decide)) hc_8 hc_15 hc_16 hc_17) ⟨rfl, rfl, Nat.le_of_ble_eq_true rfl, Nat.le_of_ble_eq_true rfl⟩ hl.1 (Nat.le_of_ble_eq_true rfl) dX5_offer_44 ⟨Nat.zero_le _, Nat.zero_le _⟩ rfl (fun w_21 H locs hu_20 hw => ?_)
  obtain ⟨hs5, hu_20⟩ := hu_20
  have hc_22 : w_21 77 = .inr (4, [.int (nI 0), .int (nI n), .int (nI t), .int (nI 1), .ref (ad 78), .ref (ad 79), .ref (ad 80), .ref (ad 81), .ref (ad 82), .ref (ad 83), .int (nI qu), .ref (ad 84), .ref (ad 85), .ref (ad 86), .int (nI en), .int (nI kp), .ref (ad 87), .long hs5]) := by rw [hu_20]; exact va_up_self _ _ _
  have hc_23 : w_21 78 = .inl (cZ, 17, .inl dz) := by rw [hu_20, va_up_ne _ _ (by decide)]; exact hc_9
  have hc_24 : w_21 79 = .inl (cZ, 17, .inl oz) := by rw [hu_20, va_up_ne _ _ (by decide)]; exact hc_10
  have hc_25 : w_21 80 = .inl (cJ, 289, .inr (.inl cf)) := by rw [hu_20, va_up_ne _ _ (by decide)]; exact hc_11
  have hc_26 : w_21 81 = .inl (cJ, 289, .inr (.inl mf)) := by rw [hu_20, va_up_ne _ _ (by decide)]; exact hc_12
  have hc_27 : w_21 82 = .inl (cJ, 289, .inr (.inl sf)) := by rw [hu_20, va_up_ne _ _ (by decide)]; exact hc_13
  have hc_28 : w_21 83 = .inl (cZ, 289, .inl xf) := by rw [hu_20, va_up_ne _ _ (by decide)]; exact hc_14
  have hc_29 : w_21 84 = .inl (cJ, 17, .inr (.inl kyf)) := by rw [hu_20, va_up_ne _ _ (by decide)]; exact hc_15
  have hc_30 : w_21 85 = .inl (cJ, 17, .inr (.inl swf)) := by rw [hu_20, va_up_ne _ _ (by decide)]; exact hc_16
  have hc_31 : w_21 86 = .inl (cJ, 301, .inr (.inl vlf)) := by rw [hu_20, va_up_ne _ _ (by decide)]; exact hc_17
  have hc_32 : w_21 87 = .inl (cJ, 17, .inr (.inl plf)) := by rw [hu_20, va_up_ne _ _ (by decide)]; exact hc_18
  rw [show basF (msgF (vs en) en) ^ ks f % 2147483579 = syP ks vs en f from rfl]
  refine lv_iload_n hx hb dX5_offer_47 rfl (lv_at hl 3 rfl) ?_
  refine lv_i2l hx hb dX5_offer_48 rfl ?_
  refine lv_ladd hx hb dX5_offer_49 ?_
  rw [sum_eq (by omega) g1 e1]
  refine lv_lstore (lv' := [(6, .long (lN a2)), (0, .ref (ad 77)), (1, .int (nI k)), (2, .int (nI f)), (3, .int b1), (4, .int b2), (5, .int b3)]) hx hb dX5_offer_50 hl (by decide) rfl (fun ls hl => ?_)
  refine lv_aload_n hx hb dX5_offer_52 rfl (lv_at hl 1 rfl) ?_
  refine lv_iload_n hx hb dX5_offer_53 rfl (lv_at hl 3 rfl) ?_
  refine lv_iconst (v := nI 1) hx hb dX5_offer_54 (by decide) ?_
  refine x_callW1 (As := [.int (nI f), .int (nI 1)]) (rest := []) hC vf_X5_126 hw hA (by decide) hc_22 rfl rfl (k5_said1 l _ _ _ _ _ _ _ _ kyf swf vlf (vs en) hen (hvl rfl en (Nat.le_refl _)) f (ks f) (4 ^ ks f % 2147483579) (by omega) (hks rfl f (by omega)).1 (hks rfl f (by omega)).2 ((hclv rfl).1 f (by omega)) (Nat.lt_trans (Nat.mod_lt _ (by decide)) (by decide)) hc_22 hc_29 hc_30 hc_31) ⟨rfl, rfl, Nat.le_of_ble_eq_true rfl, Nat.le_of_ble_eq_true rfl⟩ hl.1 (Nat.le_of_ble_eq_true rfl) dX5_offer_55 ⟨Nat.zero_le _, Nat.zero_le _⟩ rfl (fun w_34 H locs hu_33 hw => ?_)
  obtain ⟨hs6, hu_33⟩ := hu_33
  have hc_35 : w_34 77 = .inr (4, [.int (nI 0), .int (nI n), .int (nI t), .int (nI 1), .ref (ad 78), .ref (ad 79), .ref (ad 80), .ref (ad 81), .ref (ad 82), .ref (ad 83), .int (nI qu), .ref (ad 84), .ref (ad 85), .ref (ad 86), .int (nI en), .int (nI kp), .ref (ad 87), .long hs6]) := by rw [hu_33]; exact va_up_self _ _ _
  have hc_36 : w_34 78 = .inl (cZ, 17, .inl dz) := by rw [hu_33, va_up_ne _ _ (by decide)]; exact hc_23
  have hc_37 : w_34 79 = .inl (cZ, 17, .inl oz) := by rw [hu_33, va_up_ne _ _ (by decide)]; exact hc_24
  have hc_38 : w_34 80 = .inl (cJ, 289, .inr (.inl cf)) := by rw [hu_33, va_up_ne _ _ (by decide)]; exact hc_25
  have hc_39 : w_34 81 = .inl (cJ, 289, .inr (.inl mf)) := by rw [hu_33, va_up_ne _ _ (by decide)]; exact hc_26
  have hc_40 : w_34 82 = .inl (cJ, 289, .inr (.inl sf)) := by rw [hu_33, va_up_ne _ _ (by decide)]; exact hc_27
  have hc_41 : w_34 83 = .inl (cZ, 289, .inl xf) := by rw [hu_33, va_up_ne _ _ (by decide)]; exact hc_28
  have hc_42 : w_34 84 = .inl (cJ, 17, .inr (.inl kyf)) := by rw [hu_33, va_up_ne _ _ (by decide)]; exact hc_29
  have hc_43 : w_34 85 = .inl (cJ, 17, .inr (.inl swf)) := by rw [hu_33, va_up_ne _ _ (by decide)]; exact hc_30
  have hc_44 : w_34 86 = .inl (cJ, 301, .inr (.inl vlf)) := by rw [hu_33, va_up_ne _ _ (by decide)]; exact hc_31
  have hc_45 : w_34 87 = .inl (cJ, 17, .inr (.inl plf)) := by rw [hu_33, va_up_ne _ _ (by decide)]; exact hc_32
  rw [show saC (ks f) (4 ^ ks f % 2147483579) (basF (msgF (vs en) en)) (msgF (vs en) en) = syC ks vs en f from rfl]
  refine lv_iload hx hb dX5_offer_58 (lv_at hl 5 rfl) ?_
  refine lv_i2l hx hb dX5_offer_60 rfl ?_
  refine lv_ladd hx hb dX5_offer_61 ?_
  rw [sum_eq (by omega) g2 e2]
  refine lv_lstore (lv' := [(8, .long (lN x2)), (6, .long (lN a2)), (0, .ref (ad 77)), (1, .int (nI k)), (2, .int (nI f)), (3, .int b1), (4, .int b2), (5, .int b3)]) hx hb dX5_offer_62 hl (by decide) rfl (fun ls hl => ?_)
  refine lv_aload_n hx hb dX5_offer_64 rfl (lv_at hl 2 rfl) ?_
  refine lv_iload_n hx hb dX5_offer_65 rfl (lv_at hl 4 rfl) ?_
  refine lv_iconst (v := nI 2) hx hb dX5_offer_66 (by decide) ?_
  refine x_callW1 (As := [.int (nI f), .int (nI 2)]) (rest := []) hC vf_X5_126 hw hA (by decide) hc_35 rfl rfl (k5_said2 l _ _ _ _ _ _ _ _ kyf swf vlf (vs en) hen (hvl rfl en (Nat.le_refl _)) f (ks f) (4 ^ ks f % 2147483579) (by omega) (hks rfl f (by omega)).1 (hks rfl f (by omega)).2 ((hclv rfl).1 f (by omega)) (Nat.lt_trans (Nat.mod_lt _ (by decide)) (by decide)) hc_35 hc_42 hc_43 hc_44) ⟨rfl, rfl, Nat.le_of_ble_eq_true rfl, Nat.le_of_ble_eq_true rfl⟩ hl.1 (Nat.le_of_ble_eq_true rfl) dX5_offer_67 ⟨Nat.zero_le _, Nat.zero_le _⟩ rfl (fun w_47 H locs hu_46 hw => ?_)
  obtain ⟨hs7, hu_46⟩ := hu_46
  have hc_48 : w_47 77 = .inr (4, [.int (nI 0), .int (nI n), .int (nI t), .int (nI 1), .ref (ad 78), .ref (ad 79), .ref (ad 80), .ref (ad 81), .ref (ad 82), .ref (ad 83), .int (nI qu), .ref (ad 84), .ref (ad 85), .ref (ad 86), .int (nI en), .int (nI kp), .ref (ad 87), .long hs7]) := by rw [hu_46]; exact va_up_self _ _ _
  have hc_49 : w_47 78 = .inl (cZ, 17, .inl dz) := by rw [hu_46, va_up_ne _ _ (by decide)]; exact hc_36
  have hc_50 : w_47 79 = .inl (cZ, 17, .inl oz) := by rw [hu_46, va_up_ne _ _ (by decide)]; exact hc_37
  have hc_51 : w_47 80 = .inl (cJ, 289, .inr (.inl cf)) := by rw [hu_46, va_up_ne _ _ (by decide)]; exact hc_38
  have hc_52 : w_47 81 = .inl (cJ, 289, .inr (.inl mf)) := by rw [hu_46, va_up_ne _ _ (by decide)]; exact hc_39
  have hc_53 : w_47 82 = .inl (cJ, 289, .inr (.inl sf)) := by rw [hu_46, va_up_ne _ _ (by decide)]; exact hc_40
  have hc_54 : w_47 83 = .inl (cZ, 289, .inl xf) := by rw [hu_46, va_up_ne _ _ (by decide)]; exact hc_41
  have hc_55 : w_47 84 = .inl (cJ, 17, .inr (.inl kyf)) := by rw [hu_46, va_up_ne _ _ (by decide)]; exact hc_42
  have hc_56 : w_47 85 = .inl (cJ, 17, .inr (.inl swf)) := by rw [hu_46, va_up_ne _ _ (by decide)]; exact hc_43
  have hc_57 : w_47 86 = .inl (cJ, 301, .inr (.inl vlf)) := by rw [hu_46, va_up_ne _ _ (by decide)]; exact hc_44
  have hc_58 : w_47 87 = .inl (cJ, 17, .inr (.inl plf)) := by rw [hu_46, va_up_ne _ _ (by decide)]; exact hc_45
  rw [show saZ (ks f) (4 ^ ks f % 2147483579) (basF (msgF (vs en) en)) (msgF (vs en) en) = syZ ks vs en f from rfl]
  refine lv_iload hx hb dX5_offer_70 (lv_at hl 7 rfl) ?_
  refine lv_i2l hx hb dX5_offer_72 rfl ?_
  refine lv_ladd hx hb dX5_offer_73 ?_
  rw [sum_eq (by omega) g3 e3]
  refine lv_lstore (lv' := [(10, .long (lN y2)), (8, .long (lN x2)), (6, .long (lN a2)), (0, .ref (ad 77)), (1, .int (nI k)), (2, .int (nI f)), (3, .int b1), (4, .int b2), (5, .int b3)]) hx hb dX5_offer_74 hl (by decide) rfl (fun ls hl => ?_)
  refine lv_aload_n hx hb dX5_offer_76 rfl (lv_at hl 3 rfl) ?_
  refine lv_iload_n hx hb dX5_offer_77 rfl (lv_at hl 4 rfl) ?_
  refine lv_lload hx hb dX5_offer_78 (lv_at hl 2 rfl) ?_
  refine lv_lload hx hb dX5_offer_80 (lv_at hl 1 rfl) ?_
  refine lv_lload hx hb dX5_offer_82 (lv_at hl 0 rfl) ?_
  by_cases c1 : 1 ≤ a2 ∧ a2 < 2147483579 ∧ a2 ^ 1073741789 % 2147483579 = 1 ∧ x2 < 1073741789 ∧ y2 < 1073741789
  · skip
    obtain ⟨f1, f2, f3, f4, f5⟩ := c1
    refine x_callW1 (As := [.int (nI k), .long (lN a2), .long (lN x2), .long (lN y2)]) (rest := []) hC vf_X5_133 hw hA (by decide) hc_48 rfl rfl (k5_holdsY l _ _ _ _ _ _ _ _ swf vlf (vs en) hen (hvl rfl en (Nat.le_refl _)) k (ks k) (by omega) (hks rfl k (by omega)).2 a2 x2 y2 f1 f2 f3 f4 f5 hc_48 hc_56 hc_57) ⟨rfl, rfl, Nat.le_of_ble_eq_true rfl, Nat.le_of_ble_eq_true rfl⟩ hl.1 (Nat.le_of_ble_eq_true rfl) dX5_offer_84 ⟨Nat.zero_le _, Nat.zero_le _⟩ rfl (fun w_60 H locs hu_59 hw => ?_)
    obtain ⟨hs9, hu_59⟩ := hu_59
    have hc_61 : w_60 77 = .inr (4, [.int (nI 0), .int (nI n), .int (nI t), .int (nI 1), .ref (ad 78), .ref (ad 79), .ref (ad 80), .ref (ad 81), .ref (ad 82), .ref (ad 83), .int (nI qu), .ref (ad 84), .ref (ad 85), .ref (ad 86), .int (nI en), .int (nI kp), .ref (ad 87), .long hs9]) := by rw [hu_59]; exact va_up_self _ _ _
    have hc_62 : w_60 78 = .inl (cZ, 17, .inl dz) := by rw [hu_59, va_up_ne _ _ (by decide)]; exact hc_49
    have hc_63 : w_60 79 = .inl (cZ, 17, .inl oz) := by rw [hu_59, va_up_ne _ _ (by decide)]; exact hc_50
    have hc_64 : w_60 80 = .inl (cJ, 289, .inr (.inl cf)) := by rw [hu_59, va_up_ne _ _ (by decide)]; exact hc_51
    have hc_65 : w_60 81 = .inl (cJ, 289, .inr (.inl mf)) := by rw [hu_59, va_up_ne _ _ (by decide)]; exact hc_52
    have hc_66 : w_60 82 = .inl (cJ, 289, .inr (.inl sf)) := by rw [hu_59, va_up_ne _ _ (by decide)]; exact hc_53
    have hc_67 : w_60 83 = .inl (cZ, 289, .inl xf) := by rw [hu_59, va_up_ne _ _ (by decide)]; exact hc_54
    have hc_68 : w_60 84 = .inl (cJ, 17, .inr (.inl kyf)) := by rw [hu_59, va_up_ne _ _ (by decide)]; exact hc_55
    have hc_69 : w_60 85 = .inl (cJ, 17, .inr (.inl swf)) := by rw [hu_59, va_up_ne _ _ (by decide)]; exact hc_56
    have hc_70 : w_60 86 = .inl (cJ, 301, .inr (.inl vlf)) := by rw [hu_59, va_up_ne _ _ (by decide)]; exact hc_57
    have hc_71 : w_60 87 = .inl (cJ, 17, .inr (.inl plf)) := by rw [hu_59, va_up_ne _ _ (by decide)]; exact hc_58
    rw [show basF (msgF (vs en) en) = bsF vs en from rfl]
    rw [if_neg (fun q => hno ⟨f1, f2, f3, f4, f5, q⟩)]
    refine lv_if_eq (tgt := 102) hx hb dX5_offer_87 (by decide) (fun q_72 => ?_) (fun q_72 => absurd (by decide) q_72)
    refine lv_iconst (v := nI 0) hx hb dX5_offer_102 (by decide) ?_
    have hfr : ∀ z, z ≠ 77 → w_60 z = w z := fun z hhfr0 => by rw [hu_59, va_up_ne _ _ hhfr0, hu_46, va_up_ne _ _ hhfr0, hu_33, va_up_ne _ _ hhfr0, hu_20, va_up_ne _ _ hhfr0, hu_6, va_up_ne _ _ hhfr0]
    exact x_wretZ hx hb hr hlocks (by decide) hw ⟨fun z hz => hfr z (by omega), RM.set77 hRM hfr hc_61⟩ dX5_offer_103
  · skip
    refine x_callW1 (As := [.int (nI k), .long (lN a2), .long (lN x2), .long (lN y2)]) (rest := []) hC vf_X5_133 hw hA (by decide) hc_48 rfl rfl (k5_holdsR l _ _ _ _ _ _ _ _ k (by omega) (lN a2) (lN x2) (lN y2) (fun q => c1 (gd_nat g1 g2 g3 q)) hc_48) ⟨rfl, rfl, Nat.le_of_ble_eq_true rfl, Nat.le_of_ble_eq_true rfl⟩ hl.1 (Nat.le_of_ble_eq_true rfl) dX5_offer_84 ⟨Nat.zero_le _, Nat.zero_le _⟩ rfl (fun w_73 H locs hu hw => ?_)
    rw [hu] at hw
    refine lv_if_eq (tgt := 102) hx hb dX5_offer_87 (by decide) (fun q_74 => ?_) (fun q_74 => absurd (by decide) q_74)
    refine lv_iconst (v := nI 0) hx hb dX5_offer_102 (by decide) ?_
    have hfr : ∀ z, z ≠ 77 → w_47 z = w z := fun z hhfr0 => by rw [hu_46, va_up_ne _ _ hhfr0, hu_33, va_up_ne _ _ hhfr0, hu_20, va_up_ne _ _ hhfr0, hu_6, va_up_ne _ _ hhfr0]
    exact x_wretZ hx hb hr hlocks (by decide) hw ⟨fun z hz => hfr z (by omega), RM.set77 hRM hfr hc_48⟩ dX5_offer_103
set_option maxHeartbeats 4000000 in
set_option maxRecDepth 100000 in
theorem m_offerK (l : Launch) {D : va_G} {cI cJ cZ cD : ClassId} {ad : Nat → Nat} {w : Nat → va_E} {sz : Nat} (n t cl qu en kp : Nat) (dl ou cp ks pt : Nat → Nat) (co sh : Nat → Nat → Nat) (vs : Nat → Int64) (cd : Int32) (hok : OkS n t cl qu en kp dl ou cp ks pt co sh) (hRM : RM ad cJ cZ w cd n t cl qu en kp dl ou cp ks pt co sh vs) (k f : Nat) (hk1 : 1 ≤ k) (hk2 : k ≤ n) (hf1 : 1 ≤ f) (hf2 : f ≤ n) (b1 b2 b3 : Int32) (hcl0 : cl = 1) (hkpt : tb kp k = 1)  : MW l yX5_offer (.code yX5_offer cX5_offer 12 (some .boolean)) ({ frames := 4, cells := 0, slots := 0, locals := 144 }) [.ref (ad 77), .int (nI k), .int (nI f), .int b1, .int b2, .int b3] D (tyL cI cJ cZ cD) ad 89 w sz (some (.int (nI 0))) (fun u => (∀ z, z < 77 ∨ 87 < z → u z = w z) ∧ RM ad cJ cZ u (nI 0) n t 1 qu en kp dl ou cp ks pt co sh vs) := by
  refine MW.of (by decide) (Nat.le_of_ble_eq_true rfl) ?_
  intro p e s m below meth c ls hC hr hlocks hl hw
  obtain ⟨hx, hb, hml, hown, hts⟩ := id hC
  have hA : ∀ q, s.heap.size ≤ q → xA ad 89 s.heap.size q := fun q h => Or.inr h
  have hl : lv_has ls 12 [(0, .ref (ad 77)), (1, .int (nI k)), (2, .int (nI f)), (3, .int b1), (4, .int b2), (5, .int b3)] := hl
  obtain ⟨⟨hs, hM⟩, ⟨dz, oz, hDz, hOz, hdo⟩, ⟨cf, mf, sf, hCf, hMf, hSf, hcs⟩, ⟨xf, hXf, hxx⟩, ⟨kyf, swf, hKy, hSw, hks⟩, ⟨vlf, hVl, hvl⟩, ⟨plf, hPl, hpl⟩⟩ := id hRM
  obtain ⟨⟨hn, ht, hcl, hqu, hen, hkp⟩, hle, ⟨hqb, hkb, hcb⟩, hvals, hclv, hptl, ⟨hz1, hz2, hz3⟩⟩ := id hok
  subst hcl0
  refine lv_aload_n hx hb dX5_offer_0 rfl (lv_at hl 0 rfl) ?_
  refine lv_aload_n hx hb dX5_offer_1 rfl (lv_at hl 0 rfl) ?_
  refine gf_X5_71 hx hb hts hown hw (by decide) hM rfl dX5_offer_2 ?_
  refine lv_if_ne (tgt := 12) hx hb dX5_offer_5 (by decide) (fun q_1 => ?_) (fun q_1 => absurd q_1 (by decide))
  refine lv_aload_n hx hb dX5_offer_12 rfl (lv_at hl 0 rfl) ?_
  refine lv_iload_n hx hb dX5_offer_13 rfl (lv_at hl 1 rfl) ?_
  refine x_callW1 (As := [.int (nI k)]) (rest := [.ref (ad 77)]) hC vf_X5_84 hw hA (by decide) hM rfl rfl (k5_isNode l _ _ _ _ _ _ _ _ hn k hk1 hk2 hM) ⟨rfl, rfl, Nat.le_of_ble_eq_true rfl, Nat.le_of_ble_eq_true rfl⟩ hl.1 (Nat.le_of_ble_eq_true rfl) dX5_offer_14 ⟨Nat.zero_le _, Nat.zero_le _⟩ rfl (fun w_2 H locs hu hw => ?_)
  rw [hu] at hw
  refine lv_if_eq (tgt := 28) hx hb dX5_offer_17 (by decide) (fun q_3 => absurd q_3 (by decide)) (fun q_3 => ?_)
  refine lv_aload_n hx hb dX5_offer_20 rfl (lv_at hl 0 rfl) ?_
  refine lv_iload_n hx hb dX5_offer_21 rfl (lv_at hl 2 rfl) ?_
  refine x_callW1 (As := [.int (nI f)]) (rest := [.ref (ad 77)]) hC vf_X5_84 hw hA (by decide) hM rfl rfl (k5_isNode l _ _ _ _ _ _ _ _ hn f hf1 hf2 hM) ⟨rfl, rfl, Nat.le_of_ble_eq_true rfl, Nat.le_of_ble_eq_true rfl⟩ hl.1 (Nat.le_of_ble_eq_true rfl) dX5_offer_22 ⟨Nat.zero_le _, Nat.zero_le _⟩ rfl (fun w_4 H locs hu hw => ?_)
  rw [hu] at hw
  refine lv_if_ne (tgt := 32) hx hb dX5_offer_25 (by decide) (fun q_5 => ?_) (fun q_5 => absurd q_5 (by decide))
  refine lv_iconst (v := nI 0) hx hb dX5_offer_32 (by decide) ?_
  refine x_callW1 (As := [.int (nI 0)]) (rest := []) hC vf_X5_64 hw hA (by decide) hM rfl rfl (k5_refuses0 l _ _ _ _ _ _ _ _ hM) ⟨rfl, rfl, Nat.le_of_ble_eq_true rfl, Nat.le_of_ble_eq_true rfl⟩ hl.1 (Nat.le_of_ble_eq_true rfl) dX5_offer_33 ⟨Nat.zero_le _, Nat.zero_le _⟩ rfl (fun w_7 H locs hu_6 hw => ?_)
  have hc_8 : w_7 77 = .inr (4, [.int (nI 0), .int (nI n), .int (nI t), .int (nI 1), .ref (ad 78), .ref (ad 79), .ref (ad 80), .ref (ad 81), .ref (ad 82), .ref (ad 83), .int (nI qu), .ref (ad 84), .ref (ad 85), .ref (ad 86), .int (nI en), .int (nI kp), .ref (ad 87), .long hs]) := by rw [hu_6]; exact va_up_self _ _ _
  have hc_9 : w_7 78 = .inl (cZ, 17, .inl dz) := by rw [hu_6, va_up_ne _ _ (by decide)]; exact hDz
  have hc_10 : w_7 79 = .inl (cZ, 17, .inl oz) := by rw [hu_6, va_up_ne _ _ (by decide)]; exact hOz
  have hc_11 : w_7 80 = .inl (cJ, 289, .inr (.inl cf)) := by rw [hu_6, va_up_ne _ _ (by decide)]; exact hCf
  have hc_12 : w_7 81 = .inl (cJ, 289, .inr (.inl mf)) := by rw [hu_6, va_up_ne _ _ (by decide)]; exact hMf
  have hc_13 : w_7 82 = .inl (cJ, 289, .inr (.inl sf)) := by rw [hu_6, va_up_ne _ _ (by decide)]; exact hSf
  have hc_14 : w_7 83 = .inl (cZ, 289, .inl xf) := by rw [hu_6, va_up_ne _ _ (by decide)]; exact hXf
  have hc_15 : w_7 84 = .inl (cJ, 17, .inr (.inl kyf)) := by rw [hu_6, va_up_ne _ _ (by decide)]; exact hKy
  have hc_16 : w_7 85 = .inl (cJ, 17, .inr (.inl swf)) := by rw [hu_6, va_up_ne _ _ (by decide)]; exact hSw
  have hc_17 : w_7 86 = .inl (cJ, 301, .inr (.inl vlf)) := by rw [hu_6, va_up_ne _ _ (by decide)]; exact hVl
  have hc_18 : w_7 87 = .inl (cJ, 17, .inr (.inl plf)) := by rw [hu_6, va_up_ne _ _ (by decide)]; exact hPl
  refine lv_if_eq (tgt := 41) hx hb dX5_offer_36 (by decide) (fun q_19 => ?_) (fun q_19 => absurd (by decide) q_19)
  have hs1 := syP_lt ks vs en f; have hs2 := syC_lt ks vs en f; have hs3 := syZ_lt ks vs en f
  refine lv_aload_n hx hb dX5_offer_41 rfl (lv_at hl 0 rfl) ?_
  refine lv_iload_n hx hb dX5_offer_42 rfl (lv_at hl 2 rfl) ?_
  refine lv_iconst (v := nI 0) hx hb dX5_offer_43 (by decide) ?_
  refine x_callW1 (As := [.int (nI f), .int (nI 0)]) (rest := []) hC vf_X5_126 hw hA (by decide) hc_8 rfl rfl (k5_said0 l _ _ _ _ _ _ _ _ kyf swf vlf (vs en) hen (hvl rfl en (Nat.le_refl _)) f (ks f) (4 ^ ks f % 2147483579) (by omega) (hks rfl f (by omega)).1 (hks rfl f (by omega)).2 ((hclv rfl).1 f (by omega)) (Nat.lt_trans (Nat.mod_lt _ (by decide)) (by decide)) hc_8 hc_15 hc_16 hc_17) ⟨rfl, rfl, Nat.le_of_ble_eq_true rfl, Nat.le_of_ble_eq_true rfl⟩ hl.1 (Nat.le_of_ble_eq_true rfl) dX5_offer_44 ⟨Nat.zero_le _, Nat.zero_le _⟩ rfl (fun w_21 H locs hu_20 hw => ?_)
  obtain ⟨hs5, hu_20⟩ := hu_20
  have hc_22 : w_21 77 = .inr (4, [.int (nI 0), .int (nI n), .int (nI t), .int (nI 1), .ref (ad 78), .ref (ad 79), .ref (ad 80), .ref (ad 81), .ref (ad 82), .ref (ad 83), .int (nI qu), .ref (ad 84), .ref (ad 85), .ref (ad 86), .int (nI en), .int (nI kp), .ref (ad 87), .long hs5]) := by rw [hu_20]; exact va_up_self _ _ _
  have hc_23 : w_21 78 = .inl (cZ, 17, .inl dz) := by rw [hu_20, va_up_ne _ _ (by decide)]; exact hc_9
  have hc_24 : w_21 79 = .inl (cZ, 17, .inl oz) := by rw [hu_20, va_up_ne _ _ (by decide)]; exact hc_10
  have hc_25 : w_21 80 = .inl (cJ, 289, .inr (.inl cf)) := by rw [hu_20, va_up_ne _ _ (by decide)]; exact hc_11
  have hc_26 : w_21 81 = .inl (cJ, 289, .inr (.inl mf)) := by rw [hu_20, va_up_ne _ _ (by decide)]; exact hc_12
  have hc_27 : w_21 82 = .inl (cJ, 289, .inr (.inl sf)) := by rw [hu_20, va_up_ne _ _ (by decide)]; exact hc_13
  have hc_28 : w_21 83 = .inl (cZ, 289, .inl xf) := by rw [hu_20, va_up_ne _ _ (by decide)]; exact hc_14
  have hc_29 : w_21 84 = .inl (cJ, 17, .inr (.inl kyf)) := by rw [hu_20, va_up_ne _ _ (by decide)]; exact hc_15
  have hc_30 : w_21 85 = .inl (cJ, 17, .inr (.inl swf)) := by rw [hu_20, va_up_ne _ _ (by decide)]; exact hc_16
  have hc_31 : w_21 86 = .inl (cJ, 301, .inr (.inl vlf)) := by rw [hu_20, va_up_ne _ _ (by decide)]; exact hc_17
  have hc_32 : w_21 87 = .inl (cJ, 17, .inr (.inl plf)) := by rw [hu_20, va_up_ne _ _ (by decide)]; exact hc_18
  rw [show basF (msgF (vs en) en) ^ ks f % 2147483579 = syP ks vs en f from rfl]
  refine lv_iload_n hx hb dX5_offer_47 rfl (lv_at hl 3 rfl) ?_
  refine lv_i2l hx hb dX5_offer_48 rfl ?_
  refine lv_ladd hx hb dX5_offer_49 ?_
  refine lv_lstore (lv' := [(6, .long ((lN (syP ks vs en f)) + b1.toInt64)), (0, .ref (ad 77)), (1, .int (nI k)), (2, .int (nI f)), (3, .int b1), (4, .int b2), (5, .int b3)]) hx hb dX5_offer_50 hl (by decide) rfl (fun ls hl => ?_)
  refine lv_aload_n hx hb dX5_offer_52 rfl (lv_at hl 1 rfl) ?_
  refine lv_iload_n hx hb dX5_offer_53 rfl (lv_at hl 3 rfl) ?_
  refine lv_iconst (v := nI 1) hx hb dX5_offer_54 (by decide) ?_
  refine x_callW1 (As := [.int (nI f), .int (nI 1)]) (rest := []) hC vf_X5_126 hw hA (by decide) hc_22 rfl rfl (k5_said1 l _ _ _ _ _ _ _ _ kyf swf vlf (vs en) hen (hvl rfl en (Nat.le_refl _)) f (ks f) (4 ^ ks f % 2147483579) (by omega) (hks rfl f (by omega)).1 (hks rfl f (by omega)).2 ((hclv rfl).1 f (by omega)) (Nat.lt_trans (Nat.mod_lt _ (by decide)) (by decide)) hc_22 hc_29 hc_30 hc_31) ⟨rfl, rfl, Nat.le_of_ble_eq_true rfl, Nat.le_of_ble_eq_true rfl⟩ hl.1 (Nat.le_of_ble_eq_true rfl) dX5_offer_55 ⟨Nat.zero_le _, Nat.zero_le _⟩ rfl (fun w_34 H locs hu_33 hw => ?_)
  obtain ⟨hs6, hu_33⟩ := hu_33
  have hc_35 : w_34 77 = .inr (4, [.int (nI 0), .int (nI n), .int (nI t), .int (nI 1), .ref (ad 78), .ref (ad 79), .ref (ad 80), .ref (ad 81), .ref (ad 82), .ref (ad 83), .int (nI qu), .ref (ad 84), .ref (ad 85), .ref (ad 86), .int (nI en), .int (nI kp), .ref (ad 87), .long hs6]) := by rw [hu_33]; exact va_up_self _ _ _
  have hc_36 : w_34 78 = .inl (cZ, 17, .inl dz) := by rw [hu_33, va_up_ne _ _ (by decide)]; exact hc_23
  have hc_37 : w_34 79 = .inl (cZ, 17, .inl oz) := by rw [hu_33, va_up_ne _ _ (by decide)]; exact hc_24
  have hc_38 : w_34 80 = .inl (cJ, 289, .inr (.inl cf)) := by rw [hu_33, va_up_ne _ _ (by decide)]; exact hc_25
  have hc_39 : w_34 81 = .inl (cJ, 289, .inr (.inl mf)) := by rw [hu_33, va_up_ne _ _ (by decide)]; exact hc_26
  have hc_40 : w_34 82 = .inl (cJ, 289, .inr (.inl sf)) := by rw [hu_33, va_up_ne _ _ (by decide)]; exact hc_27
  have hc_41 : w_34 83 = .inl (cZ, 289, .inl xf) := by rw [hu_33, va_up_ne _ _ (by decide)]; exact hc_28
  have hc_42 : w_34 84 = .inl (cJ, 17, .inr (.inl kyf)) := by rw [hu_33, va_up_ne _ _ (by decide)]; exact hc_29
  have hc_43 : w_34 85 = .inl (cJ, 17, .inr (.inl swf)) := by rw [hu_33, va_up_ne _ _ (by decide)]; exact hc_30
  have hc_44 : w_34 86 = .inl (cJ, 301, .inr (.inl vlf)) := by rw [hu_33, va_up_ne _ _ (by decide)]; exact hc_31
  have hc_45 : w_34 87 = .inl (cJ, 17, .inr (.inl plf)) := by rw [hu_33, va_up_ne _ _ (by decide)]; exact hc_32
  rw [show saC (ks f) (4 ^ ks f % 2147483579) (basF (msgF (vs en) en)) (msgF (vs en) en) = syC ks vs en f from rfl]
  refine lv_iload hx hb dX5_offer_58 (lv_at hl 5 rfl) ?_
  refine lv_i2l hx hb dX5_offer_60 rfl ?_
  refine lv_ladd hx hb dX5_offer_61 ?_
  refine lv_lstore (lv' := [(8, .long ((lN (syC ks vs en f)) + b2.toInt64)), (6, .long ((lN (syP ks vs en f)) + b1.toInt64)), (0, .ref (ad 77)), (1, .int (nI k)), (2, .int (nI f)), (3, .int b1), (4, .int b2), (5, .int b3)]) hx hb dX5_offer_62 hl (by decide) rfl (fun ls hl => ?_)
  refine lv_aload_n hx hb dX5_offer_64 rfl (lv_at hl 2 rfl) ?_
  refine lv_iload_n hx hb dX5_offer_65 rfl (lv_at hl 4 rfl) ?_
  refine lv_iconst (v := nI 2) hx hb dX5_offer_66 (by decide) ?_
  refine x_callW1 (As := [.int (nI f), .int (nI 2)]) (rest := []) hC vf_X5_126 hw hA (by decide) hc_35 rfl rfl (k5_said2 l _ _ _ _ _ _ _ _ kyf swf vlf (vs en) hen (hvl rfl en (Nat.le_refl _)) f (ks f) (4 ^ ks f % 2147483579) (by omega) (hks rfl f (by omega)).1 (hks rfl f (by omega)).2 ((hclv rfl).1 f (by omega)) (Nat.lt_trans (Nat.mod_lt _ (by decide)) (by decide)) hc_35 hc_42 hc_43 hc_44) ⟨rfl, rfl, Nat.le_of_ble_eq_true rfl, Nat.le_of_ble_eq_true rfl⟩ hl.1 (Nat.le_of_ble_eq_true rfl) dX5_offer_67 ⟨Nat.zero_le _, Nat.zero_le _⟩ rfl (fun w_47 H locs hu_46 hw => ?_)
  obtain ⟨hs7, hu_46⟩ := hu_46
  have hc_48 : w_47 77 = .inr (4, [.int (nI 0), .int (nI n), .int (nI t), .int (nI 1), .ref (ad 78), .ref (ad 79), .ref (ad 80), .ref (ad 81), .ref (ad 82), .ref (ad 83), .int (nI qu), .ref (ad 84), .ref (ad 85), .ref (ad 86), .int (nI en), .int (nI kp), .ref (ad 87), .long hs7]) := by rw [hu_46]; exact va_up_self _ _ _
  have hc_49 : w_47 78 = .inl (cZ, 17, .inl dz) := by rw [hu_46, va_up_ne _ _ (by decide)]; exact hc_36
  have hc_50 : w_47 79 = .inl (cZ, 17, .inl oz) := by rw [hu_46, va_up_ne _ _ (by decide)]; exact hc_37
  have hc_51 : w_47 80 = .inl (cJ, 289, .inr (.inl cf)) := by rw [hu_46, va_up_ne _ _ (by decide)]; exact hc_38
  have hc_52 : w_47 81 = .inl (cJ, 289, .inr (.inl mf)) := by rw [hu_46, va_up_ne _ _ (by decide)]; exact hc_39
  have hc_53 : w_47 82 = .inl (cJ, 289, .inr (.inl sf)) := by rw [hu_46, va_up_ne _ _ (by decide)]; exact hc_40
  have hc_54 : w_47 83 = .inl (cZ, 289, .inl xf) := by rw [hu_46, va_up_ne _ _ (by decide)]; exact hc_41
  have hc_55 : w_47 84 = .inl (cJ, 17, .inr (.inl kyf)) := by rw [hu_46, va_up_ne _ _ (by decide)]; exact hc_42
  have hc_56 : w_47 85 = .inl (cJ, 17, .inr (.inl swf)) := by rw [hu_46, va_up_ne _ _ (by decide)]; exact hc_43
  have hc_57 : w_47 86 = .inl (cJ, 301, .inr (.inl vlf)) := by rw [hu_46, va_up_ne _ _ (by decide)]; exact hc_44
  have hc_58 : w_47 87 = .inl (cJ, 17, .inr (.inl plf)) := by rw [hu_46, va_up_ne _ _ (by decide)]; exact hc_45
  rw [show saZ (ks f) (4 ^ ks f % 2147483579) (basF (msgF (vs en) en)) (msgF (vs en) en) = syZ ks vs en f from rfl]
  refine lv_iload hx hb dX5_offer_70 (lv_at hl 7 rfl) ?_
  refine lv_i2l hx hb dX5_offer_72 rfl ?_
  refine lv_ladd hx hb dX5_offer_73 ?_
  refine lv_lstore (lv' := [(10, .long ((lN (syZ ks vs en f)) + b3.toInt64)), (8, .long ((lN (syC ks vs en f)) + b2.toInt64)), (6, .long ((lN (syP ks vs en f)) + b1.toInt64)), (0, .ref (ad 77)), (1, .int (nI k)), (2, .int (nI f)), (3, .int b1), (4, .int b2), (5, .int b3)]) hx hb dX5_offer_74 hl (by decide) rfl (fun ls hl => ?_)
  refine lv_aload_n hx hb dX5_offer_76 rfl (lv_at hl 3 rfl) ?_
  refine lv_iload_n hx hb dX5_offer_77 rfl (lv_at hl 4 rfl) ?_
  refine lv_lload hx hb dX5_offer_78 (lv_at hl 2 rfl) ?_
  refine lv_lload hx hb dX5_offer_80 (lv_at hl 1 rfl) ?_
  refine lv_lload hx hb dX5_offer_82 (lv_at hl 0 rfl) ?_
  by_cases c1 : gdL (lN (syP ks vs en f) + b1.toInt64) (lN (syC ks vs en f) + b2.toInt64) (lN (syZ ks vs en f) + b3.toInt64)
  · skip
    obtain ⟨a2, x2, y2, e1, e2, e3, f1, f2, f3, f4, f5⟩ := c1
    rw [e1, e2, e3] at hl
    rw [e1, e2, e3]
    refine x_callW1 (As := [.int (nI k), .long (lN a2), .long (lN x2), .long (lN y2)]) (rest := []) hC vf_X5_133 hw hA (by decide) hc_48 rfl rfl (k5_holdsY l _ _ _ _ _ _ _ _ swf vlf (vs en) hen (hvl rfl en (Nat.le_refl _)) k (ks k) (by omega) (hks rfl k (by omega)).2 a2 x2 y2 f1 f2 f3 f4 f5 hc_48 hc_56 hc_57) ⟨rfl, rfl, Nat.le_of_ble_eq_true rfl, Nat.le_of_ble_eq_true rfl⟩ hl.1 (Nat.le_of_ble_eq_true rfl) dX5_offer_84 ⟨Nat.zero_le _, Nat.zero_le _⟩ rfl (fun w_60 H locs hu_59 hw => ?_)
    obtain ⟨hs9, hu_59⟩ := hu_59
    have hc_61 : w_60 77 = .inr (4, [.int (nI 0), .int (nI n), .int (nI t), .int (nI 1), .ref (ad 78), .ref (ad 79), .ref (ad 80), .ref (ad 81), .ref (ad 82), .ref (ad 83), .int (nI qu), .ref (ad 84), .ref (ad 85), .ref (ad 86), .int (nI en), .int (nI kp), .ref (ad 87), .long hs9]) := by rw [hu_59]; exact va_up_self _ _ _
    have hc_62 : w_60 78 = .inl (cZ, 17, .inl dz) := by rw [hu_59, va_up_ne _ _ (by decide)]; exact hc_49
    have hc_63 : w_60 79 = .inl (cZ, 17, .inl oz) := by rw [hu_59, va_up_ne _ _ (by decide)]; exact hc_50
    have hc_64 : w_60 80 = .inl (cJ, 289, .inr (.inl cf)) := by rw [hu_59, va_up_ne _ _ (by decide)]; exact hc_51
    have hc_65 : w_60 81 = .inl (cJ, 289, .inr (.inl mf)) := by rw [hu_59, va_up_ne _ _ (by decide)]; exact hc_52
    have hc_66 : w_60 82 = .inl (cJ, 289, .inr (.inl sf)) := by rw [hu_59, va_up_ne _ _ (by decide)]; exact hc_53
    have hc_67 : w_60 83 = .inl (cZ, 289, .inl xf) := by rw [hu_59, va_up_ne _ _ (by decide)]; exact hc_54
    have hc_68 : w_60 84 = .inl (cJ, 17, .inr (.inl kyf)) := by rw [hu_59, va_up_ne _ _ (by decide)]; exact hc_55
    have hc_69 : w_60 85 = .inl (cJ, 17, .inr (.inl swf)) := by rw [hu_59, va_up_ne _ _ (by decide)]; exact hc_56
    have hc_70 : w_60 86 = .inl (cJ, 301, .inr (.inl vlf)) := by rw [hu_59, va_up_ne _ _ (by decide)]; exact hc_57
    have hc_71 : w_60 87 = .inl (cJ, 17, .inr (.inl plf)) := by rw [hu_59, va_up_ne _ _ (by decide)]; exact hc_58
    rw [show basF (msgF (vs en) en) = bsF vs en from rfl]
    by_cases c2 : x2 = chF (bsF vs en) (4 ^ ks k % 2147483579) a2 (4 ^ y2 % 2147483579 * ((4 ^ ks k % 2147483579) ^ (1073741789 - x2) % 2147483579) % 2147483579) (bsF vs en ^ y2 % 2147483579 * (a2 ^ (1073741789 - x2) % 2147483579) % 2147483579)
    · skip
      rw [if_pos c2]
      refine lv_if_eq (tgt := 102) hx hb dX5_offer_87 (by decide) (fun q_72 => absurd q_72 (by decide)) (fun q_72 => ?_)
      refine lv_aload_n hx hb dX5_offer_90 rfl (lv_at hl 3 rfl) ?_
      refine gf_X5_81 hx hb hts hown hw (by decide) hc_61 rfl dX5_offer_91 ?_
      refine lv_iload_n hx hb dX5_offer_94 rfl (lv_at hl 4 rfl) ?_
      refine lv_ishr hx hb dX5_offer_95 ?_
      refine lv_iconst (v := nI 1) hx hb dX5_offer_96 (by decide) ?_
      refine lv_iand hx hb dX5_offer_97 ?_
      rw [hb_val (by omega) (by omega)]
      rw [hkpt]
      refine lv_iconst (v := nI 1) hx hb dX5_offer_98 (by decide) ?_
      refine lv_icmp_ne (tgt := 104) hx hb dX5_offer_99 (by decide) (fun q_73 => absurd (by decide) q_73) (fun q_73 => ?_)
      refine lv_iconst (v := nI 0) hx hb dX5_offer_102 (by decide) ?_
      have hfr : ∀ z, z ≠ 77 → w_60 z = w z := fun z hhfr0 => by rw [hu_59, va_up_ne _ _ hhfr0, hu_46, va_up_ne _ _ hhfr0, hu_33, va_up_ne _ _ hhfr0, hu_20, va_up_ne _ _ hhfr0, hu_6, va_up_ne _ _ hhfr0]
      exact x_wretZ hx hb hr hlocks (by decide) hw ⟨fun z hz => hfr z (by omega), RM.set77 hRM hfr hc_61⟩ dX5_offer_103
    · skip
      rw [if_neg c2]
      refine lv_if_eq (tgt := 102) hx hb dX5_offer_87 (by decide) (fun q_74 => ?_) (fun q_74 => absurd (by decide) q_74)
      refine lv_iconst (v := nI 0) hx hb dX5_offer_102 (by decide) ?_
      have hfr : ∀ z, z ≠ 77 → w_60 z = w z := fun z hhfr0 => by rw [hu_59, va_up_ne _ _ hhfr0, hu_46, va_up_ne _ _ hhfr0, hu_33, va_up_ne _ _ hhfr0, hu_20, va_up_ne _ _ hhfr0, hu_6, va_up_ne _ _ hhfr0]
      exact x_wretZ hx hb hr hlocks (by decide) hw ⟨fun z hz => hfr z (by omega), RM.set77 hRM hfr hc_61⟩ dX5_offer_103
  · skip
    refine x_callW1 (As := [.int (nI k), .long ((lN (syP ks vs en f)) + b1.toInt64), .long ((lN (syC ks vs en f)) + b2.toInt64), .long ((lN (syZ ks vs en f)) + b3.toInt64)]) (rest := []) hC vf_X5_133 hw hA (by decide) hc_48 rfl rfl (k5_holdsR l _ _ _ _ _ _ _ _ k (by omega) (lN (syP ks vs en f) + b1.toInt64) (lN (syC ks vs en f) + b2.toInt64) (lN (syZ ks vs en f) + b3.toInt64) c1 hc_48) ⟨rfl, rfl, Nat.le_of_ble_eq_true rfl, Nat.le_of_ble_eq_true rfl⟩ hl.1 (Nat.le_of_ble_eq_true rfl) dX5_offer_84 ⟨Nat.zero_le _, Nat.zero_le _⟩ rfl (fun w_75 H locs hu hw => ?_)
    rw [hu] at hw
    refine lv_if_eq (tgt := 102) hx hb dX5_offer_87 (by decide) (fun q_76 => ?_) (fun q_76 => absurd (by decide) q_76)
    refine lv_iconst (v := nI 0) hx hb dX5_offer_102 (by decide) ?_
    have hfr : ∀ z, z ≠ 77 → w_47 z = w z := fun z hhfr0 => by rw [hu_46, va_up_ne _ _ hhfr0, hu_33, va_up_ne _ _ hhfr0, hu_20, va_up_ne _ _ hhfr0, hu_6, va_up_ne _ _ hhfr0]
    exact x_wretZ hx hb hr hlocks (by decide) hw ⟨fun z hz => hfr z (by omega), RM.set77 hRM hfr hc_48⟩ dX5_offer_103
set_option maxHeartbeats 4000000 in
set_option maxRecDepth 100000 in
theorem m_offerY (l : Launch) {D : va_G} {cI cJ cZ cD : ClassId} {ad : Nat → Nat} {w : Nat → va_E} {sz : Nat} (n t cl qu en kp : Nat) (dl ou cp ks pt : Nat → Nat) (co sh : Nat → Nat → Nat) (vs : Nat → Int64) (cd : Int32) (hok : OkS n t cl qu en kp dl ou cp ks pt co sh) (hRM : RM ad cJ cZ w cd n t cl qu en kp dl ou cp ks pt co sh vs) (k f : Nat) (hk1 : 1 ≤ k) (hk2 : k ≤ n) (hf1 : 1 ≤ f) (hf2 : f ≤ n) (b1 b2 b3 : Int32) (hcl0 : cl = 1) (hkpt : tb kp k = 0) (a2 x2 y2 : Nat) (g1 : a2 < 2147483648) (g2 : x2 < 2147483648) (g3 : y2 < 2147483648) (e1 : (syP ks vs en f : Int) + b1.toInt = a2) (e2 : (syC ks vs en f : Int) + b2.toInt = x2) (e3 : (syZ ks vs en f : Int) + b3.toInt = y2) (hyes : hldF a2 x2 y2 (4 ^ ks k % 2147483579) (bsF vs en))  : MW l yX5_offer (.code yX5_offer cX5_offer 12 (some .boolean)) ({ frames := 4, cells := 0, slots := 0, locals := 144 }) [.ref (ad 77), .int (nI k), .int (nI f), .int b1, .int b2, .int b3] D (tyL cI cJ cZ cD) ad 89 w sz (some (.int (nI 1))) (fun u => (∀ z, z < 77 ∨ 87 < z → u z = w z) ∧ RM ad cJ cZ u (nI 0) n t 1 qu en (kp ||| 2 ^ k) dl ou cp ks (va_up pt k a2) co sh vs) := by
  refine MW.of (by decide) (Nat.le_of_ble_eq_true rfl) ?_
  intro p e s m below meth c ls hC hr hlocks hl hw
  obtain ⟨hx, hb, hml, hown, hts⟩ := id hC
  have hA : ∀ q, s.heap.size ≤ q → xA ad 89 s.heap.size q := fun q h => Or.inr h
  have hl : lv_has ls 12 [(0, .ref (ad 77)), (1, .int (nI k)), (2, .int (nI f)), (3, .int b1), (4, .int b2), (5, .int b3)] := hl
  obtain ⟨⟨hs, hM⟩, ⟨dz, oz, hDz, hOz, hdo⟩, ⟨cf, mf, sf, hCf, hMf, hSf, hcs⟩, ⟨xf, hXf, hxx⟩, ⟨kyf, swf, hKy, hSw, hks⟩, ⟨vlf, hVl, hvl⟩, ⟨plf, hPl, hpl⟩⟩ := id hRM
  obtain ⟨⟨hn, ht, hcl, hqu, hen, hkp⟩, hle, ⟨hqb, hkb, hcb⟩, hvals, hclv, hptl, ⟨hz1, hz2, hz3⟩⟩ := id hok
  subst hcl0
  refine lv_aload_n hx hb dX5_offer_0 rfl (lv_at hl 0 rfl) ?_
  refine lv_aload_n hx hb dX5_offer_1 rfl (lv_at hl 0 rfl) ?_
  refine gf_X5_71 hx hb hts hown hw (by decide) hM rfl dX5_offer_2 ?_
  refine lv_if_ne (tgt := 12) hx hb dX5_offer_5 (by decide) (fun q_1 => ?_) (fun q_1 => absurd q_1 (by decide))
  refine lv_aload_n hx hb dX5_offer_12 rfl (lv_at hl 0 rfl) ?_
  refine lv_iload_n hx hb dX5_offer_13 rfl (lv_at hl 1 rfl) ?_
  refine x_callW1 (As := [.int (nI k)]) (rest := [.ref (ad 77)]) hC vf_X5_84 hw hA (by decide) hM rfl rfl (k5_isNode l _ _ _ _ _ _ _ _ hn k hk1 hk2 hM) ⟨rfl, rfl, Nat.le_of_ble_eq_true rfl, Nat.le_of_ble_eq_true rfl⟩ hl.1 (Nat.le_of_ble_eq_true rfl) dX5_offer_14 ⟨Nat.zero_le _, Nat.zero_le _⟩ rfl (fun w_2 H locs hu hw => ?_)
  rw [hu] at hw
  refine lv_if_eq (tgt := 28) hx hb dX5_offer_17 (by decide) (fun q_3 => absurd q_3 (by decide)) (fun q_3 => ?_)
  refine lv_aload_n hx hb dX5_offer_20 rfl (lv_at hl 0 rfl) ?_
  refine lv_iload_n hx hb dX5_offer_21 rfl (lv_at hl 2 rfl) ?_
  refine x_callW1 (As := [.int (nI f)]) (rest := [.ref (ad 77)]) hC vf_X5_84 hw hA (by decide) hM rfl rfl (k5_isNode l _ _ _ _ _ _ _ _ hn f hf1 hf2 hM) ⟨rfl, rfl, Nat.le_of_ble_eq_true rfl, Nat.le_of_ble_eq_true rfl⟩ hl.1 (Nat.le_of_ble_eq_true rfl) dX5_offer_22 ⟨Nat.zero_le _, Nat.zero_le _⟩ rfl (fun w_4 H locs hu hw => ?_)
  rw [hu] at hw
  refine lv_if_ne (tgt := 32) hx hb dX5_offer_25 (by decide) (fun q_5 => ?_) (fun q_5 => absurd q_5 (by decide))
  refine lv_iconst (v := nI 0) hx hb dX5_offer_32 (by decide) ?_
  refine x_callW1 (As := [.int (nI 0)]) (rest := []) hC vf_X5_64 hw hA (by decide) hM rfl rfl (k5_refuses0 l _ _ _ _ _ _ _ _ hM) ⟨rfl, rfl, Nat.le_of_ble_eq_true rfl, Nat.le_of_ble_eq_true rfl⟩ hl.1 (Nat.le_of_ble_eq_true rfl) dX5_offer_33 ⟨Nat.zero_le _, Nat.zero_le _⟩ rfl (fun w_7 H locs hu_6 hw => ?_)
  have hc_8 : w_7 77 = .inr (4, [.int (nI 0), .int (nI n), .int (nI t), .int (nI 1), .ref (ad 78), .ref (ad 79), .ref (ad 80), .ref (ad 81), .ref (ad 82), .ref (ad 83), .int (nI qu), .ref (ad 84), .ref (ad 85), .ref (ad 86), .int (nI en), .int (nI kp), .ref (ad 87), .long hs]) := by rw [hu_6]; exact va_up_self _ _ _
  have hc_9 : w_7 78 = .inl (cZ, 17, .inl dz) := by rw [hu_6, va_up_ne _ _ (by decide)]; exact hDz
  have hc_10 : w_7 79 = .inl (cZ, 17, .inl oz) := by rw [hu_6, va_up_ne _ _ (by decide)]; exact hOz
  have hc_11 : w_7 80 = .inl (cJ, 289, .inr (.inl cf)) := by rw [hu_6, va_up_ne _ _ (by decide)]; exact hCf
  have hc_12 : w_7 81 = .inl (cJ, 289, .inr (.inl mf)) := by rw [hu_6, va_up_ne _ _ (by decide)]; exact hMf
  have hc_13 : w_7 82 = .inl (cJ, 289, .inr (.inl sf)) := by rw [hu_6, va_up_ne _ _ (by decide)]; exact hSf
  have hc_14 : w_7 83 = .inl (cZ, 289, .inl xf) := by rw [hu_6, va_up_ne _ _ (by decide)]; exact hXf
  have hc_15 : w_7 84 = .inl (cJ, 17, .inr (.inl kyf)) := by rw [hu_6, va_up_ne _ _ (by decide)]; exact hKy
  have hc_16 : w_7 85 = .inl (cJ, 17, .inr (.inl swf)) := by rw [hu_6, va_up_ne _ _ (by decide)]; exact hSw
  have hc_17 : w_7 86 = .inl (cJ, 301, .inr (.inl vlf)) := by rw [hu_6, va_up_ne _ _ (by decide)]; exact hVl
  have hc_18 : w_7 87 = .inl (cJ, 17, .inr (.inl plf)) := by rw [hu_6, va_up_ne _ _ (by decide)]; exact hPl
  refine lv_if_eq (tgt := 41) hx hb dX5_offer_36 (by decide) (fun q_19 => ?_) (fun q_19 => absurd (by decide) q_19)
  have hs1 := syP_lt ks vs en f; have hs2 := syC_lt ks vs en f; have hs3 := syZ_lt ks vs en f
  refine lv_aload_n hx hb dX5_offer_41 rfl (lv_at hl 0 rfl) ?_
  refine lv_iload_n hx hb dX5_offer_42 rfl (lv_at hl 2 rfl) ?_
  refine lv_iconst (v := nI 0) hx hb dX5_offer_43 (by decide) ?_
  refine x_callW1 (As := [.int (nI f), .int (nI 0)]) (rest := []) hC vf_X5_126 hw hA (by decide) hc_8 rfl rfl (k5_said0 l _ _ _ _ _ _ _ _ kyf swf vlf (vs en) hen (hvl rfl en (Nat.le_refl _)) f (ks f) (4 ^ ks f % 2147483579) (by omega) (hks rfl f (by omega)).1 (hks rfl f (by omega)).2 ((hclv rfl).1 f (by omega)) (Nat.lt_trans (Nat.mod_lt _ (by decide)) (by decide)) hc_8 hc_15 hc_16 hc_17) ⟨rfl, rfl, Nat.le_of_ble_eq_true rfl, Nat.le_of_ble_eq_true rfl⟩ hl.1 (Nat.le_of_ble_eq_true rfl) dX5_offer_44 ⟨Nat.zero_le _, Nat.zero_le _⟩ rfl (fun w_21 H locs hu_20 hw => ?_)
  obtain ⟨hs5, hu_20⟩ := hu_20
  have hc_22 : w_21 77 = .inr (4, [.int (nI 0), .int (nI n), .int (nI t), .int (nI 1), .ref (ad 78), .ref (ad 79), .ref (ad 80), .ref (ad 81), .ref (ad 82), .ref (ad 83), .int (nI qu), .ref (ad 84), .ref (ad 85), .ref (ad 86), .int (nI en), .int (nI kp), .ref (ad 87), .long hs5]) := by rw [hu_20]; exact va_up_self _ _ _
  have hc_23 : w_21 78 = .inl (cZ, 17, .inl dz) := by rw [hu_20, va_up_ne _ _ (by decide)]; exact hc_9
  have hc_24 : w_21 79 = .inl (cZ, 17, .inl oz) := by rw [hu_20, va_up_ne _ _ (by decide)]; exact hc_10
  have hc_25 : w_21 80 = .inl (cJ, 289, .inr (.inl cf)) := by rw [hu_20, va_up_ne _ _ (by decide)]; exact hc_11
  have hc_26 : w_21 81 = .inl (cJ, 289, .inr (.inl mf)) := by rw [hu_20, va_up_ne _ _ (by decide)]; exact hc_12
  have hc_27 : w_21 82 = .inl (cJ, 289, .inr (.inl sf)) := by rw [hu_20, va_up_ne _ _ (by decide)]; exact hc_13
  have hc_28 : w_21 83 = .inl (cZ, 289, .inl xf) := by rw [hu_20, va_up_ne _ _ (by decide)]; exact hc_14
  have hc_29 : w_21 84 = .inl (cJ, 17, .inr (.inl kyf)) := by rw [hu_20, va_up_ne _ _ (by decide)]; exact hc_15
  have hc_30 : w_21 85 = .inl (cJ, 17, .inr (.inl swf)) := by rw [hu_20, va_up_ne _ _ (by decide)]; exact hc_16
  have hc_31 : w_21 86 = .inl (cJ, 301, .inr (.inl vlf)) := by rw [hu_20, va_up_ne _ _ (by decide)]; exact hc_17
  have hc_32 : w_21 87 = .inl (cJ, 17, .inr (.inl plf)) := by rw [hu_20, va_up_ne _ _ (by decide)]; exact hc_18
  rw [show basF (msgF (vs en) en) ^ ks f % 2147483579 = syP ks vs en f from rfl]
  refine lv_iload_n hx hb dX5_offer_47 rfl (lv_at hl 3 rfl) ?_
  refine lv_i2l hx hb dX5_offer_48 rfl ?_
  refine lv_ladd hx hb dX5_offer_49 ?_
  rw [sum_eq (by omega) g1 e1]
  refine lv_lstore (lv' := [(6, .long (lN a2)), (0, .ref (ad 77)), (1, .int (nI k)), (2, .int (nI f)), (3, .int b1), (4, .int b2), (5, .int b3)]) hx hb dX5_offer_50 hl (by decide) rfl (fun ls hl => ?_)
  refine lv_aload_n hx hb dX5_offer_52 rfl (lv_at hl 1 rfl) ?_
  refine lv_iload_n hx hb dX5_offer_53 rfl (lv_at hl 3 rfl) ?_
  refine lv_iconst (v := nI 1) hx hb dX5_offer_54 (by decide) ?_
  refine x_callW1 (As := [.int (nI f), .int (nI 1)]) (rest := []) hC vf_X5_126 hw hA (by decide) hc_22 rfl rfl (k5_said1 l _ _ _ _ _ _ _ _ kyf swf vlf (vs en) hen (hvl rfl en (Nat.le_refl _)) f (ks f) (4 ^ ks f % 2147483579) (by omega) (hks rfl f (by omega)).1 (hks rfl f (by omega)).2 ((hclv rfl).1 f (by omega)) (Nat.lt_trans (Nat.mod_lt _ (by decide)) (by decide)) hc_22 hc_29 hc_30 hc_31) ⟨rfl, rfl, Nat.le_of_ble_eq_true rfl, Nat.le_of_ble_eq_true rfl⟩ hl.1 (Nat.le_of_ble_eq_true rfl) dX5_offer_55 ⟨Nat.zero_le _, Nat.zero_le _⟩ rfl (fun w_34 H locs hu_33 hw => ?_)
  obtain ⟨hs6, hu_33⟩ := hu_33
  have hc_35 : w_34 77 = .inr (4, [.int (nI 0), .int (nI n), .int (nI t), .int (nI 1), .ref (ad 78), .ref (ad 79), .ref (ad 80), .ref (ad 81), .ref (ad 82), .ref (ad 83), .int (nI qu), .ref (ad 84), .ref (ad 85), .ref (ad 86), .int (nI en), .int (nI kp), .ref (ad 87), .long hs6]) := by rw [hu_33]; exact va_up_self _ _ _
  have hc_36 : w_34 78 = .inl (cZ, 17, .inl dz) := by rw [hu_33, va_up_ne _ _ (by decide)]; exact hc_23
  have hc_37 : w_34 79 = .inl (cZ, 17, .inl oz) := by rw [hu_33, va_up_ne _ _ (by decide)]; exact hc_24
  have hc_38 : w_34 80 = .inl (cJ, 289, .inr (.inl cf)) := by rw [hu_33, va_up_ne _ _ (by decide)]; exact hc_25
  have hc_39 : w_34 81 = .inl (cJ, 289, .inr (.inl mf)) := by rw [hu_33, va_up_ne _ _ (by decide)]; exact hc_26
  have hc_40 : w_34 82 = .inl (cJ, 289, .inr (.inl sf)) := by rw [hu_33, va_up_ne _ _ (by decide)]; exact hc_27
  have hc_41 : w_34 83 = .inl (cZ, 289, .inl xf) := by rw [hu_33, va_up_ne _ _ (by decide)]; exact hc_28
  have hc_42 : w_34 84 = .inl (cJ, 17, .inr (.inl kyf)) := by rw [hu_33, va_up_ne _ _ (by decide)]; exact hc_29
  have hc_43 : w_34 85 = .inl (cJ, 17, .inr (.inl swf)) := by rw [hu_33, va_up_ne _ _ (by decide)]; exact hc_30
  have hc_44 : w_34 86 = .inl (cJ, 301, .inr (.inl vlf)) := by rw [hu_33, va_up_ne _ _ (by decide)]; exact hc_31
  have hc_45 : w_34 87 = .inl (cJ, 17, .inr (.inl plf)) := by rw [hu_33, va_up_ne _ _ (by decide)]; exact hc_32
  rw [show saC (ks f) (4 ^ ks f % 2147483579) (basF (msgF (vs en) en)) (msgF (vs en) en) = syC ks vs en f from rfl]
  refine lv_iload hx hb dX5_offer_58 (lv_at hl 5 rfl) ?_
  refine lv_i2l hx hb dX5_offer_60 rfl ?_
  refine lv_ladd hx hb dX5_offer_61 ?_
  rw [sum_eq (by omega) g2 e2]
  refine lv_lstore (lv' := [(8, .long (lN x2)), (6, .long (lN a2)), (0, .ref (ad 77)), (1, .int (nI k)), (2, .int (nI f)), (3, .int b1), (4, .int b2), (5, .int b3)]) hx hb dX5_offer_62 hl (by decide) rfl (fun ls hl => ?_)
  refine lv_aload_n hx hb dX5_offer_64 rfl (lv_at hl 2 rfl) ?_
  refine lv_iload_n hx hb dX5_offer_65 rfl (lv_at hl 4 rfl) ?_
  refine lv_iconst (v := nI 2) hx hb dX5_offer_66 (by decide) ?_
  refine x_callW1 (As := [.int (nI f), .int (nI 2)]) (rest := []) hC vf_X5_126 hw hA (by decide) hc_35 rfl rfl (k5_said2 l _ _ _ _ _ _ _ _ kyf swf vlf (vs en) hen (hvl rfl en (Nat.le_refl _)) f (ks f) (4 ^ ks f % 2147483579) (by omega) (hks rfl f (by omega)).1 (hks rfl f (by omega)).2 ((hclv rfl).1 f (by omega)) (Nat.lt_trans (Nat.mod_lt _ (by decide)) (by decide)) hc_35 hc_42 hc_43 hc_44) ⟨rfl, rfl, Nat.le_of_ble_eq_true rfl, Nat.le_of_ble_eq_true rfl⟩ hl.1 (Nat.le_of_ble_eq_true rfl) dX5_offer_67 ⟨Nat.zero_le _, Nat.zero_le _⟩ rfl (fun w_47 H locs hu_46 hw => ?_)
  obtain ⟨hs7, hu_46⟩ := hu_46
  have hc_48 : w_47 77 = .inr (4, [.int (nI 0), .int (nI n), .int (nI t), .int (nI 1), .ref (ad 78), .ref (ad 79), .ref (ad 80), .ref (ad 81), .ref (ad 82), .ref (ad 83), .int (nI qu), .ref (ad 84), .ref (ad 85), .ref (ad 86), .int (nI en), .int (nI kp), .ref (ad 87), .long hs7]) := by rw [hu_46]; exact va_up_self _ _ _
  have hc_49 : w_47 78 = .inl (cZ, 17, .inl dz) := by rw [hu_46, va_up_ne _ _ (by decide)]; exact hc_36
  have hc_50 : w_47 79 = .inl (cZ, 17, .inl oz) := by rw [hu_46, va_up_ne _ _ (by decide)]; exact hc_37
  have hc_51 : w_47 80 = .inl (cJ, 289, .inr (.inl cf)) := by rw [hu_46, va_up_ne _ _ (by decide)]; exact hc_38
  have hc_52 : w_47 81 = .inl (cJ, 289, .inr (.inl mf)) := by rw [hu_46, va_up_ne _ _ (by decide)]; exact hc_39
  have hc_53 : w_47 82 = .inl (cJ, 289, .inr (.inl sf)) := by rw [hu_46, va_up_ne _ _ (by decide)]; exact hc_40
  have hc_54 : w_47 83 = .inl (cZ, 289, .inl xf) := by rw [hu_46, va_up_ne _ _ (by decide)]; exact hc_41
  have hc_55 : w_47 84 = .inl (cJ, 17, .inr (.inl kyf)) := by rw [hu_46, va_up_ne _ _ (by decide)]; exact hc_42
  have hc_56 : w_47 85 = .inl (cJ, 17, .inr (.inl swf)) := by rw [hu_46, va_up_ne _ _ (by decide)]; exact hc_43
  have hc_57 : w_47 86 = .inl (cJ, 301, .inr (.inl vlf)) := by rw [hu_46, va_up_ne _ _ (by decide)]; exact hc_44
  have hc_58 : w_47 87 = .inl (cJ, 17, .inr (.inl plf)) := by rw [hu_46, va_up_ne _ _ (by decide)]; exact hc_45
  rw [show saZ (ks f) (4 ^ ks f % 2147483579) (basF (msgF (vs en) en)) (msgF (vs en) en) = syZ ks vs en f from rfl]
  refine lv_iload hx hb dX5_offer_70 (lv_at hl 7 rfl) ?_
  refine lv_i2l hx hb dX5_offer_72 rfl ?_
  refine lv_ladd hx hb dX5_offer_73 ?_
  rw [sum_eq (by omega) g3 e3]
  refine lv_lstore (lv' := [(10, .long (lN y2)), (8, .long (lN x2)), (6, .long (lN a2)), (0, .ref (ad 77)), (1, .int (nI k)), (2, .int (nI f)), (3, .int b1), (4, .int b2), (5, .int b3)]) hx hb dX5_offer_74 hl (by decide) rfl (fun ls hl => ?_)
  refine lv_aload_n hx hb dX5_offer_76 rfl (lv_at hl 3 rfl) ?_
  refine lv_iload_n hx hb dX5_offer_77 rfl (lv_at hl 4 rfl) ?_
  refine lv_lload hx hb dX5_offer_78 (lv_at hl 2 rfl) ?_
  refine lv_lload hx hb dX5_offer_80 (lv_at hl 1 rfl) ?_
  refine lv_lload hx hb dX5_offer_82 (lv_at hl 0 rfl) ?_
  obtain ⟨f1, f2, f3, f4, f5, f6⟩ := hyes
  refine x_callW1 (As := [.int (nI k), .long (lN a2), .long (lN x2), .long (lN y2)]) (rest := []) hC vf_X5_133 hw hA (by decide) hc_48 rfl rfl (k5_holdsY l _ _ _ _ _ _ _ _ swf vlf (vs en) hen (hvl rfl en (Nat.le_refl _)) k (ks k) (by omega) (hks rfl k (by omega)).2 a2 x2 y2 f1 f2 f3 f4 f5 hc_48 hc_56 hc_57) ⟨rfl, rfl, Nat.le_of_ble_eq_true rfl, Nat.le_of_ble_eq_true rfl⟩ hl.1 (Nat.le_of_ble_eq_true rfl) dX5_offer_84 ⟨Nat.zero_le _, Nat.zero_le _⟩ rfl (fun w_60 H locs hu_59 hw => ?_)
  obtain ⟨hs9, hu_59⟩ := hu_59
  have hc_61 : w_60 77 = .inr (4, [.int (nI 0), .int (nI n), .int (nI t), .int (nI 1), .ref (ad 78), .ref (ad 79), .ref (ad 80), .ref (ad 81), .ref (ad 82), .ref (ad 83), .int (nI qu), .ref (ad 84), .ref (ad 85), .ref (ad 86), .int (nI en), .int (nI kp), .ref (ad 87), .long hs9]) := by rw [hu_59]; exact va_up_self _ _ _
  have hc_62 : w_60 78 = .inl (cZ, 17, .inl dz) := by rw [hu_59, va_up_ne _ _ (by decide)]; exact hc_49
  have hc_63 : w_60 79 = .inl (cZ, 17, .inl oz) := by rw [hu_59, va_up_ne _ _ (by decide)]; exact hc_50
  have hc_64 : w_60 80 = .inl (cJ, 289, .inr (.inl cf)) := by rw [hu_59, va_up_ne _ _ (by decide)]; exact hc_51
  have hc_65 : w_60 81 = .inl (cJ, 289, .inr (.inl mf)) := by rw [hu_59, va_up_ne _ _ (by decide)]; exact hc_52
  have hc_66 : w_60 82 = .inl (cJ, 289, .inr (.inl sf)) := by rw [hu_59, va_up_ne _ _ (by decide)]; exact hc_53
  have hc_67 : w_60 83 = .inl (cZ, 289, .inl xf) := by rw [hu_59, va_up_ne _ _ (by decide)]; exact hc_54
  have hc_68 : w_60 84 = .inl (cJ, 17, .inr (.inl kyf)) := by rw [hu_59, va_up_ne _ _ (by decide)]; exact hc_55
  have hc_69 : w_60 85 = .inl (cJ, 17, .inr (.inl swf)) := by rw [hu_59, va_up_ne _ _ (by decide)]; exact hc_56
  have hc_70 : w_60 86 = .inl (cJ, 301, .inr (.inl vlf)) := by rw [hu_59, va_up_ne _ _ (by decide)]; exact hc_57
  have hc_71 : w_60 87 = .inl (cJ, 17, .inr (.inl plf)) := by rw [hu_59, va_up_ne _ _ (by decide)]; exact hc_58
  rw [show basF (msgF (vs en) en) = bsF vs en from rfl]
  rw [if_pos f6]
  refine lv_if_eq (tgt := 102) hx hb dX5_offer_87 (by decide) (fun q_72 => absurd q_72 (by decide)) (fun q_72 => ?_)
  refine lv_aload_n hx hb dX5_offer_90 rfl (lv_at hl 3 rfl) ?_
  refine gf_X5_81 hx hb hts hown hw (by decide) hc_61 rfl dX5_offer_91 ?_
  refine lv_iload_n hx hb dX5_offer_94 rfl (lv_at hl 4 rfl) ?_
  refine lv_ishr hx hb dX5_offer_95 ?_
  refine lv_iconst (v := nI 1) hx hb dX5_offer_96 (by decide) ?_
  refine lv_iand hx hb dX5_offer_97 ?_
  rw [hb_val (by omega) (by omega)]
  rw [hkpt]
  refine lv_iconst (v := nI 1) hx hb dX5_offer_98 (by decide) ?_
  refine lv_icmp_ne (tgt := 104) hx hb dX5_offer_99 (by decide) (fun q_73 => ?_) (fun q_73 => absurd q_73 (by decide))
  refine lv_aload_n hx hb dX5_offer_104 rfl (lv_at hl 3 rfl) ?_
  refine lv_dup hx hb dX5_offer_105 rfl ?_
  refine gf_X5_81 hx hb hts hown hw (by decide) hc_61 rfl dX5_offer_106 ?_
  refine lv_iconst (v := nI 1) hx hb dX5_offer_109 (by decide) ?_
  refine lv_iload_n hx hb dX5_offer_110 rfl (lv_at hl 4 rfl) ?_
  refine lv_ishl hx hb dX5_offer_111 ?_
  refine lv_ior hx hb dX5_offer_112 ?_
  rw [or_bit (by omega)]
  refine pf_X5_81 (v := .int (nI (kp ||| 2 ^ k))) hx hb hts hown hw (by decide) hc_61 rfl rfl (Nat.le_of_ble_eq_true rfl) dX5_offer_113 (fun w_74 H locs ew_75 hw => ?_)
  have hc_76 : w_74 77 = .inr (4, [.int (nI 0), .int (nI n), .int (nI t), .int (nI 1), .ref (ad 78), .ref (ad 79), .ref (ad 80), .ref (ad 81), .ref (ad 82), .ref (ad 83), .int (nI qu), .ref (ad 84), .ref (ad 85), .ref (ad 86), .int (nI en), .int (nI (kp ||| 2 ^ k)), .ref (ad 87), .long hs9]) := by rw [ew_75]; exact va_up_self _ _ _
  have hc_77 : w_74 78 = .inl (cZ, 17, .inl dz) := by rw [ew_75]; exact (va_up_ne _ _ (by omega)).trans hc_62
  have hc_78 : w_74 79 = .inl (cZ, 17, .inl oz) := by rw [ew_75]; exact (va_up_ne _ _ (by omega)).trans hc_63
  have hc_79 : w_74 80 = .inl (cJ, 289, .inr (.inl cf)) := by rw [ew_75]; exact (va_up_ne _ _ (by omega)).trans hc_64
  have hc_80 : w_74 81 = .inl (cJ, 289, .inr (.inl mf)) := by rw [ew_75]; exact (va_up_ne _ _ (by omega)).trans hc_65
  have hc_81 : w_74 82 = .inl (cJ, 289, .inr (.inl sf)) := by rw [ew_75]; exact (va_up_ne _ _ (by omega)).trans hc_66
  have hc_82 : w_74 83 = .inl (cZ, 289, .inl xf) := by rw [ew_75]; exact (va_up_ne _ _ (by omega)).trans hc_67
  have hc_83 : w_74 84 = .inl (cJ, 17, .inr (.inl kyf)) := by rw [ew_75]; exact (va_up_ne _ _ (by omega)).trans hc_68
  have hc_84 : w_74 85 = .inl (cJ, 17, .inr (.inl swf)) := by rw [ew_75]; exact (va_up_ne _ _ (by omega)).trans hc_69
  have hc_85 : w_74 86 = .inl (cJ, 301, .inr (.inl vlf)) := by rw [ew_75]; exact (va_up_ne _ _ (by omega)).trans hc_70
  have hc_86 : w_74 87 = .inl (cJ, 17, .inr (.inl plf)) := by rw [ew_75]; exact (va_up_ne _ _ (by omega)).trans hc_71
  refine lv_aload_n hx hb dX5_offer_116 rfl (lv_at hl 3 rfl) ?_
  refine gf_X5_38 hx hb hts hown hw (by decide) hc_76 rfl dX5_offer_117 ?_
  refine lv_iload_n hx hb dX5_offer_120 rfl (lv_at hl 4 rfl) ?_
  refine lv_lload hx hb dX5_offer_121 (lv_at hl 2 rfl) ?_
  refine x_last hx hb hw (by decide) 1 hc_86 rfl (j := k) (by omega) (by decide) dX5_offer_123 (fun w_87 H locs ew_88 hw => ?_)
  have hc_89 : w_87 77 = .inr (4, [.int (nI 0), .int (nI n), .int (nI t), .int (nI 1), .ref (ad 78), .ref (ad 79), .ref (ad 80), .ref (ad 81), .ref (ad 82), .ref (ad 83), .int (nI qu), .ref (ad 84), .ref (ad 85), .ref (ad 86), .int (nI en), .int (nI (kp ||| 2 ^ k)), .ref (ad 87), .long hs9]) := by rw [ew_88]; exact (va_up_ne _ _ (by omega)).trans hc_76
  have hc_90 : w_87 78 = .inl (cZ, 17, .inl dz) := by rw [ew_88]; exact (va_up_ne _ _ (by omega)).trans hc_77
  have hc_91 : w_87 79 = .inl (cZ, 17, .inl oz) := by rw [ew_88]; exact (va_up_ne _ _ (by omega)).trans hc_78
  have hc_92 : w_87 80 = .inl (cJ, 289, .inr (.inl cf)) := by rw [ew_88]; exact (va_up_ne _ _ (by omega)).trans hc_79
  have hc_93 : w_87 81 = .inl (cJ, 289, .inr (.inl mf)) := by rw [ew_88]; exact (va_up_ne _ _ (by omega)).trans hc_80
  have hc_94 : w_87 82 = .inl (cJ, 289, .inr (.inl sf)) := by rw [ew_88]; exact (va_up_ne _ _ (by omega)).trans hc_81
  have hc_95 : w_87 83 = .inl (cZ, 289, .inl xf) := by rw [ew_88]; exact (va_up_ne _ _ (by omega)).trans hc_82
  have hc_96 : w_87 84 = .inl (cJ, 17, .inr (.inl kyf)) := by rw [ew_88]; exact (va_up_ne _ _ (by omega)).trans hc_83
  have hc_97 : w_87 85 = .inl (cJ, 17, .inr (.inl swf)) := by rw [ew_88]; exact (va_up_ne _ _ (by omega)).trans hc_84
  have hc_98 : w_87 86 = .inl (cJ, 301, .inr (.inl vlf)) := by rw [ew_88]; exact (va_up_ne _ _ (by omega)).trans hc_85
  have hc_99 : w_87 87 = .inl (cJ, 17, .inr (.inl (vp_updL plf k (lN a2)))) := by rw [ew_88]; exact va_up_self _ _ _
  refine lv_iconst (v := nI 1) hx hb dX5_offer_124 (by decide) ?_
  have hfr : ∀ z, z ≠ 77 → z ≠ 87 → w_87 z = w z := fun z hhfr0 hhfr1 => by rw [ew_88, va_up_ne _ _ hhfr1, ew_75, va_up_ne _ _ hhfr0, hu_59, va_up_ne _ _ hhfr0, hu_46, va_up_ne _ _ hhfr0, hu_33, va_up_ne _ _ hhfr0, hu_20, va_up_ne _ _ hhfr0, hu_6, va_up_ne _ _ hhfr0]
  refine x_wretZ hx hb hr hlocks (by decide) hw ⟨fun z hz => hfr z (by omega) (by omega), ⟨_, hc_89⟩, RMd.of ⟨dz, oz, hDz, hOz, hdo⟩ (hfr 78 (by decide) (by decide)) (hfr 79 (by decide) (by decide)), RMc.of ⟨cf, mf, sf, hCf, hMf, hSf, hcs⟩ (hfr 80 (by decide) (by decide)) (hfr 81 (by decide) (by decide)) (hfr 82 (by decide) (by decide)), RMx.of ⟨xf, hXf, hxx⟩ (hfr 83 (by decide) (by decide)), RMk.of ⟨kyf, swf, hKy, hSw, hks⟩ (hfr 84 (by decide) (by decide)) (hfr 85 (by decide) (by decide)), RMv.of ⟨vlf, hVl, hvl⟩ (hfr 86 (by decide) (by decide)), ⟨_, hc_99, fun k9 hk9 => ?_⟩⟩ dX5_offer_125
  by_cases hkk : k9 = k
  · subst hkk; rw [uL_s, va_up_self]
  · rw [tb_or, if_neg hkk] at hk9; rw [uL_n _ _ hkk, va_up_ne _ _ hkk]; exact hpl k9 hk9
set_option maxHeartbeats 4000000 in
set_option maxRecDepth 100000 in
theorem k5_comb_in {l : Launch} {p : Program} {e : Env} {s : State} {m : MethodId} {args : Array Value} {below : List Frame} {meth : Method} {c : Code} {Q : State → Prop} {D : va_G} {cI cJ cZ cD : ClassId} {ad : Nat → Nat} {A : Nat → Prop} {H0 : Heap} {w : Nat → va_E} (hC : CallFix p m c cX5_combined 10 s args wsL_law RX5) (hA : ∀ q, H0.size ≤ q → A q) (cd : Int32) (n t cl qu en kp : Nat) (hs : Int64) (plf : Nat → Int64) (hn : n ≤ 16) (b : Nat) (hb0 : b < 2 ^ 17) (k al : Nat) (hk1 : 1 ≤ k) (hk : k ≤ 16) (hM : w 77 = .inr (4, [.int cd, .int (nI n), .int (nI t), .int (nI cl), .ref (ad 78), .ref (ad 79), .ref (ad 80), .ref (ad 81), .ref (ad 82), .ref (ad 83), .int (nI qu), .ref (ad 84), .ref (ad 85), .ref (ad 86), .int (nI en), .int (nI kp), .ref (ad 87), .long hs])) (hPl : w 87 = .inl (cJ, 17, .inr (.inl plf)))
    (kx : ∀  (ls : Array Slot) (H : Heap) (locs : List Loc),  WW D vwCl (tyL cI cJ cZ cD) A H0 ad 89 w s H locs → lv_has ls 10 [(0, .ref (ad 77)), (1, .int (nI b)), (2, .long (lN al)), (4, .int (nI k)), (5, .long (lN (ovr b k n))), (7, .long (lN (und b k n)))] → W p l e ({ frames := 2, cells := 0, slots := 0, locals := 72 }) s m args below meth c H locs 0 0 Q (F0 m 100 ls [])) :
    ∀ (j q : Nat)  (ls : Array Slot) (H : Heap) (locs : List Loc), q + j = n →  WW D vwCl (tyL cI cJ cZ cD) A H0 ad 89 w s H locs → lv_has ls 10 [(0, .ref (ad 77)), (1, .int (nI b)), (2, .long (lN al)), (4, .int (nI k)), (5, .long (lN (ovr b k q))), (7, .long (lN (und b k q))), (9, .int (nI (q + 1)))] → W p l e ({ frames := 2, cells := 0, slots := 0, locals := 72 }) s m args below meth c H locs 0 0 Q (F0 m 35 ls []) := by
  obtain ⟨hx, hb, hml, hown, hts⟩ := id hC
  intro j
  induction j with
  | zero =>
    intro q  ls H locs hq  hw hl
    obtain rfl : n = q := by omega
    have hl : lv_has ls 10 [(0, .ref (ad 77)), (1, .int (nI b)), (2, .long (lN al)), (4, .int (nI k)), (5, .long (lN (ovr b k n))), (7, .long (lN (und b k n))), (9, .int (nI (n + 1)))] := hl
    refine lv_iload hx hb dX5_combined_35 (lv_at hl 6 rfl) ?_
    refine lv_aload_n hx hb dX5_combined_37 rfl (lv_at hl 0 rfl) ?_
    refine gf_X5_59 hx hb hts hown hw (by decide) hM rfl dX5_combined_38 ?_
    refine lv_icmp_gt (tgt := 100) hx hb dX5_combined_41 (by decide) (fun hc => ?_) (fun hc => absurd (nI_lt (by omega) (by omega)) hc)
    exact kx  ls H locs  hw (lv_sub hl [0, 1, 2, 3, 4, 5] rfl)
  | succ j ih =>
    intro q  ls H locs hq  hw hl
    refine lv_iload hx hb dX5_combined_35 (lv_at hl 6 rfl) ?_
    refine lv_aload_n hx hb dX5_combined_37 rfl (lv_at hl 0 rfl) ?_
    refine gf_X5_59 hx hb hts hown hw (by decide) hM rfl dX5_combined_38 ?_
    refine lv_icmp_gt (tgt := 100) hx hb dX5_combined_41 (by decide) (fun hc => absurd hc (nI_nlt (by omega) (by omega))) (fun hc => ?_)
    have ho := ovr_lt b k q
    have hu := und_lt b k q
    have htb := tb_lt b (q + 1)
    refine lv_iload hx hb dX5_combined_44 (lv_at hl 6 rfl) ?_
    refine lv_iload hx hb dX5_combined_46 (lv_at hl 3 rfl) ?_
    refine lv_icmp_eq (tgt := 94) hx hb dX5_combined_48 (by decide) (fun h1 => ?_) (fun h1 => ?_)
    · rw [nI_eq (by omega) (by omega)] at h1
      refine lv_iinc (v := nI (q + 1 + 1)) (lv' := [(9, .int (nI (q + 1 + 1))), (0, .ref (ad 77)), (1, .int (nI b)), (2, .long (lN al)), (4, .int (nI k)), (5, .long (lN (ovr b k q))), (7, .long (lN (und b k q)))]) hx hb dX5_combined_94 hl (k := 6) rfl (nI_1 (q + 1)) (by decide) rfl (fun ls hl => ?_)
      refine lv_goto (tgt := 35) hx hb dX5_combined_97 (by decide) ?_
      refine ih (q + 1)  ls H locs (by omega)  hw (lv_sub hl [1, 2, 3, 4, 5, 6, 0] (by rw [show ovr b k (q + 1) = ovr b k q from if_neg (fun q9 => q9.1 h1), show und b k (q + 1) = und b k q from if_neg (fun q9 => q9.1 h1)]; rfl))
    · rw [nI_eq (by omega) (by omega)] at h1
      refine lv_iload_n hx hb dX5_combined_51 rfl (lv_at hl 1 rfl) ?_
      refine lv_iload hx hb dX5_combined_52 (lv_at hl 6 rfl) ?_
      refine lv_ishr hx hb dX5_combined_54 ?_
      refine lv_iconst (v := nI 1) hx hb dX5_combined_55 (by decide) ?_
      refine lv_iand hx hb dX5_combined_56 ?_
      rw [hb_val (by omega) (by omega)]
      refine lv_iconst (v := nI 1) hx hb dX5_combined_57 (by decide) ?_
      refine lv_icmp_ne (tgt := 94) hx hb dX5_combined_58 (by decide) (fun h2 => ?_) (fun h2 => ?_)
      · rw [nI_eq (by omega) (by omega)] at h2
        refine lv_iinc (v := nI (q + 1 + 1)) (lv' := [(9, .int (nI (q + 1 + 1))), (0, .ref (ad 77)), (1, .int (nI b)), (2, .long (lN al)), (4, .int (nI k)), (5, .long (lN (ovr b k q))), (7, .long (lN (und b k q)))]) hx hb dX5_combined_94 hl (k := 6) rfl (nI_1 (q + 1)) (by decide) rfl (fun ls hl => ?_)
        refine lv_goto (tgt := 35) hx hb dX5_combined_97 (by decide) ?_
        refine ih (q + 1)  ls H locs (by omega)  hw (lv_sub hl [1, 2, 3, 4, 5, 6, 0] (by rw [show ovr b k (q + 1) = ovr b k q from if_neg (fun q9 => h2 q9.2), show und b k (q + 1) = und b k q from if_neg (fun q9 => h2 q9.2)]; rfl))
      · rw [nI_eq (by omega) (by omega)] at h2
        have hdl := dif_lt (k := k) (m := q + 1) (fun q9 => h1 q9.symm) (by omega) (by omega)
        have hom : ovr b k q * (q + 1) ≤ 1073741789 * 16 := Nat.mul_le_mul (by omega) (by omega)
        have hud := mul_lt60 hu hdl
        refine lv_lload hx hb dX5_combined_61 (lv_at hl 4 rfl) ?_
        refine lv_iload hx hb dX5_combined_63 (lv_at hl 6 rfl) ?_
        refine lv_i2l hx hb dX5_combined_65 (nI_l (by omega)) ?_
        refine lv_lmul hx hb dX5_combined_66 ?_
        rw [lN_mul]
        refine lv_ldc2 hx hb hown (hts _ ct_X5_62) dX5_combined_67 ?_
        refine lv_lrem hx hb dX5_combined_70 (by decide) ?_
        rw [pk_lRem (by omega) (by decide) (by decide)]
        refine lv_lstore (lv' := [(5, .long (lN (((ovr b k q) * (q + 1)) % 1073741789))), (0, .ref (ad 77)), (1, .int (nI b)), (2, .long (lN al)), (4, .int (nI k)), (7, .long (lN (und b k q))), (9, .int (nI (q + 1)))]) hx hb dX5_combined_71 hl (by decide) rfl (fun ls hl => ?_)
        refine lv_lload hx hb dX5_combined_73 (lv_at hl 5 rfl) ?_
        refine lv_iload hx hb dX5_combined_75 (lv_at hl 6 rfl) ?_
        refine lv_iload hx hb dX5_combined_77 (lv_at hl 4 rfl) ?_
        refine lv_isub hx hb dX5_combined_79 ?_
        refine lv_i2l hx hb dX5_combined_80 rfl ?_
        refine lv_ldc2 hx hb hown (hts _ ct_X5_62) dX5_combined_81 ?_
        refine x_callS (As := [.long ((nI (q + 1) - nI k).toInt64), .long (lN 1073741789)]) (rest := [.long (lN (und b k q))]) hC sf_X5_55 (k5_rest l (nI (q + 1) - nI k).toInt64 1073741789 (by decide) (by decide)) ⟨rfl, rfl, Nat.le_of_ble_eq_true rfl, Nat.le_of_ble_eq_true rfl⟩ hl.1 (Nat.le_of_ble_eq_true rfl) dX5_combined_84 ⟨Nat.zero_le _, Nat.zero_le _⟩ rfl ?_
        rw [dif_md0 k (by omega) (q + 1) (by omega) (fun q9 => h1 q9.symm)]
        refine lv_lmul hx hb dX5_combined_87 ?_
        rw [lN_mul]
        refine lv_ldc2 hx hb hown (hts _ ct_X5_62) dX5_combined_88 ?_
        refine lv_lrem hx hb dX5_combined_91 (by decide) ?_
        rw [pk_lRem (by omega) (by decide) (by decide)]
        refine lv_lstore (lv' := [(7, .long (lN (((und b k q) * (dif k (q + 1))) % 1073741789))), (5, .long (lN (((ovr b k q) * (q + 1)) % 1073741789))), (0, .ref (ad 77)), (1, .int (nI b)), (2, .long (lN al)), (4, .int (nI k)), (9, .int (nI (q + 1)))]) hx hb dX5_combined_92 hl (by decide) rfl (fun ls hl => ?_)
        refine lv_iinc (v := nI (q + 1 + 1)) (lv' := [(9, .int (nI (q + 1 + 1))), (7, .long (lN (((und b k q) * (dif k (q + 1))) % 1073741789))), (5, .long (lN (((ovr b k q) * (q + 1)) % 1073741789))), (0, .ref (ad 77)), (1, .int (nI b)), (2, .long (lN al)), (4, .int (nI k))]) hx hb dX5_combined_94 hl (k := 6) rfl (nI_1 (q + 1)) (by decide) rfl (fun ls hl => ?_)
        refine lv_goto (tgt := 35) hx hb dX5_combined_97 (by decide) ?_
        refine ih (q + 1)  ls H locs (by omega)  hw (lv_sub hl [3, 4, 5, 6, 2, 1, 0] (by rw [show ovr b k (q + 1) = _ from if_pos ⟨h1, h2⟩, show und b k (q + 1) = _ from if_pos ⟨h1, h2⟩]; rfl))
set_option maxHeartbeats 4000000 in
set_option maxRecDepth 100000 in
theorem k5_comb_out {l : Launch} {p : Program} {e : Env} {s : State} {m : MethodId} {args : Array Value} {below : List Frame} {meth : Method} {c : Code} {Q : State → Prop} {D : va_G} {cI cJ cZ cD : ClassId} {ad : Nat → Nat} {A : Nat → Prop} {H0 : Heap} {w : Nat → va_E} (hC : CallFix p m c cX5_combined 10 s args wsL_law RX5) (hA : ∀ q, H0.size ≤ q → A q) (cd : Int32) (n t cl qu en kp : Nat) (hs : Int64) (plf : Nat → Int64) (hn : n ≤ 16) (b : Nat) (hb0 : b < 2 ^ 17) (hbb : ∀ k, tb b k = 1 → 1 ≤ k ∧ k ≤ n) (pt : Nat → Nat) (hpt : ∀ k, tb b k = 1 → plf k = lN (pt k) ∧ pt k < 2147483579) (hM : w 77 = .inr (4, [.int cd, .int (nI n), .int (nI t), .int (nI cl), .ref (ad 78), .ref (ad 79), .ref (ad 80), .ref (ad 81), .ref (ad 82), .ref (ad 83), .int (nI qu), .ref (ad 84), .ref (ad 85), .ref (ad 86), .int (nI en), .int (nI kp), .ref (ad 87), .long hs])) (hPl : w 87 = .inl (cJ, 17, .inr (.inl plf)))
    (kx : ∀  (ls : Array Slot) (H : Heap) (locs : List Loc),  WW D vwCl (tyL cI cJ cZ cD) A H0 ad 89 w s H locs → lv_has ls 10 [(2, .long (lN (cmb b pt n)))] → W p l e ({ frames := 2, cells := 0, slots := 0, locals := 72 }) s m args below meth c H locs 0 0 Q (F0 m 144 ls [])) :
    ∀ (j q : Nat)  (ls : Array Slot) (H : Heap) (locs : List Loc), q + j = n →  WW D vwCl (tyL cI cJ cZ cD) A H0 ad 89 w s H locs → lv_has ls 10 [(0, .ref (ad 77)), (1, .int (nI b)), (2, .long (lN (cmb b pt q))), (4, .int (nI (q + 1)))] → W p l e ({ frames := 2, cells := 0, slots := 0, locals := 72 }) s m args below meth c H locs 0 0 Q (F0 m 5 ls []) := by
  obtain ⟨hx, hb, hml, hown, hts⟩ := id hC
  intro j
  induction j with
  | zero =>
    intro q  ls H locs hq  hw hl
    obtain rfl : n = q := by omega
    have hl : lv_has ls 10 [(0, .ref (ad 77)), (1, .int (nI b)), (2, .long (lN (cmb b pt n))), (4, .int (nI (n + 1)))] := hl
    refine lv_iload hx hb dX5_combined_5 (lv_at hl 3 rfl) ?_
    refine lv_aload_n hx hb dX5_combined_7 rfl (lv_at hl 0 rfl) ?_
    refine gf_X5_59 hx hb hts hown hw (by decide) hM rfl dX5_combined_8 ?_
    refine lv_icmp_gt (tgt := 144) hx hb dX5_combined_11 (by decide) (fun hc => ?_) (fun hc => absurd (nI_lt (by omega) (by omega)) hc)
    exact kx  ls H locs  hw (lv_sub hl [2] rfl)
  | succ j ih =>
    intro q  ls H locs hq  hw hl
    refine lv_iload hx hb dX5_combined_5 (lv_at hl 3 rfl) ?_
    refine lv_aload_n hx hb dX5_combined_7 rfl (lv_at hl 0 rfl) ?_
    refine gf_X5_59 hx hb hts hown hw (by decide) hM rfl dX5_combined_8 ?_
    refine lv_icmp_gt (tgt := 144) hx hb dX5_combined_11 (by decide) (fun hc => absurd hc (nI_nlt (by omega) (by omega))) (fun hc => ?_)
    have htb := tb_lt b (q + 1)
    have hcm := cmb_lt b pt q
    refine lv_iload_n hx hb dX5_combined_14 rfl (lv_at hl 1 rfl) ?_
    refine lv_iload hx hb dX5_combined_15 (lv_at hl 3 rfl) ?_
    refine lv_ishr hx hb dX5_combined_17 ?_
    refine lv_iconst (v := nI 1) hx hb dX5_combined_18 (by decide) ?_
    refine lv_iand hx hb dX5_combined_19 ?_
    rw [hb_val (by omega) (by omega)]
    refine lv_if_ne (tgt := 26) hx hb dX5_combined_20 (by decide) (fun h1 => ?_) (fun h1 => ?_)
    · rw [nI_z (by omega)] at h1
      obtain ⟨p1, p2⟩ := hpt (q + 1) (by omega)
      have hwl := wgt_lt b (q + 1) 16
      refine lv_lconst (v := lN 1) hx hb dX5_combined_26 (by decide) ?_
      refine lv_lstore (lv' := [(5, .long (lN 1)), (0, .ref (ad 77)), (1, .int (nI b)), (2, .long (lN (cmb b pt q))), (4, .int (nI (q + 1)))]) hx hb dX5_combined_27 hl (by decide) rfl (fun ls hl => ?_)
      refine lv_lconst (v := lN 1) hx hb dX5_combined_29 (by decide) ?_
      refine lv_lstore (lv' := [(7, .long (lN 1)), (5, .long (lN 1)), (0, .ref (ad 77)), (1, .int (nI b)), (2, .long (lN (cmb b pt q))), (4, .int (nI (q + 1)))]) hx hb dX5_combined_30 hl (by decide) rfl (fun ls hl => ?_)
      refine lv_iconst (v := nI 1) hx hb dX5_combined_32 (by decide) ?_
      refine lv_istore (lv' := [(9, .int (nI 1)), (7, .long (lN 1)), (5, .long (lN 1)), (0, .ref (ad 77)), (1, .int (nI b)), (2, .long (lN (cmb b pt q))), (4, .int (nI (q + 1)))]) hx hb dX5_combined_33 hl (by decide) rfl (fun ls hl => ?_)
      refine k5_comb_in hC hA cd n t cl qu en kp hs plf hn b hb0 (q + 1) (cmb b pt q) (by omega) (by omega) hM hPl (fun ls H locs hw hl => ?_) n 0 ls H locs (by omega) hw (lv_sub hl [3, 4, 5, 6, 2, 1, 0] rfl)
      have ho := ovr_lt b (q + 1) n
      have hu := und_lt b (q + 1) n
      have hup := pw_lt (und b (q + 1) n) 1073741787 (show 0 < 1073741789 by decide)
      have hom := mul_lt60 ho hup
      refine lv_lload_n hx hb dX5_combined_100 rfl (lv_at hl 2 rfl) ?_
      refine lv_aload_n hx hb dX5_combined_101 rfl (lv_at hl 0 rfl) ?_
      refine gf_X5_38 hx hb hts hown hw (by decide) hM rfl dX5_combined_102 ?_
      refine lv_iload hx hb dX5_combined_105 (lv_at hl 3 rfl) ?_
      refine x_lald hx hb hw (by decide) 1 hPl rfl (j := q + 1) (by omega) (by decide) p1 dX5_combined_107 ?_
      refine lv_lload hx hb dX5_combined_108 (lv_at hl 4 rfl) ?_
      refine lv_lload hx hb dX5_combined_110 (lv_at hl 5 rfl) ?_
      refine lv_ldc2 hx hb hown (hts _ ct_X5_137) dX5_combined_112 ?_
      refine lv_ldc2 hx hb hown (hts _ ct_X5_62) dX5_combined_115 ?_
      refine x_callS (As := [.long (lN (und b (q + 1) n)), .long (lN 1073741787), .long (lN 1073741789)]) (rest := [.long (lN (ovr b (q + 1) n)), .long (lN (pt (q + 1))), .long (lN (cmb b pt q))]) hC sf_X5_95 (k5_power l (und b (q + 1) n) 1073741787 1073741789 hu (by decide) (by decide) (by decide)) ⟨rfl, rfl, Nat.le_of_ble_eq_true rfl, Nat.le_of_ble_eq_true rfl⟩ hl.1 (Nat.le_of_ble_eq_true rfl) dX5_combined_118 ⟨Nat.zero_le _, Nat.zero_le _⟩ rfl ?_
      refine lv_lmul hx hb dX5_combined_121 ?_
      rw [lN_mul]
      refine lv_ldc2 hx hb hown (hts _ ct_X5_62) dX5_combined_122 ?_
      refine lv_lrem hx hb dX5_combined_125 (by decide) ?_
      rw [pk_lRem (by omega) (by decide) (by decide)]
      rw [(ou_wgt (by omega) (by omega) n hn).trans (wgt16 hn hbb)]
      refine lv_ldc2 hx hb hown (hts _ ct_X5_93) dX5_combined_126 ?_
      refine x_callS (As := [.long (lN (pt (q + 1))), .long (lN (wgt b (q + 1) 16)), .long (lN 2147483579)]) (rest := [.long (lN (cmb b pt q))]) hC sf_X5_95 (k5_power l (pt (q + 1)) (wgt b (q + 1) 16) 2147483579 p2 (by omega) (by decide) (by decide)) ⟨rfl, rfl, Nat.le_of_ble_eq_true rfl, Nat.le_of_ble_eq_true rfl⟩ hl.1 (Nat.le_of_ble_eq_true rfl) dX5_combined_129 ⟨Nat.zero_le _, Nat.zero_le _⟩ rfl ?_
      have hpp := pw_lt (pt (q + 1)) (wgt b (q + 1) 16) (show 0 < 2147483579 by decide)
      have hmm := mul_lt62 (show cmb b pt q < 2 ^ 31 by omega) (show pt (q + 1) ^ wgt b (q + 1) 16 % 2147483579 < 2 ^ 31 by omega)
      refine lv_lmul hx hb dX5_combined_132 ?_
      rw [lN_mul]
      refine lv_ldc2 hx hb hown (hts _ ct_X5_93) dX5_combined_133 ?_
      refine lv_lrem hx hb dX5_combined_136 (by decide) ?_
      rw [pk_lRem (by omega) (by decide) (by decide)]
      refine lv_lstore_n (lv' := [(2, .long (lN (((cmb b pt q) * (pt (q + 1) ^ wgt b (q + 1) 16 % 2147483579)) % 2147483579))), (0, .ref (ad 77)), (1, .int (nI b)), (4, .int (nI (q + 1))), (5, .long (lN (ovr b (q + 1) n))), (7, .long (lN (und b (q + 1) n)))]) hx hb dX5_combined_137 rfl hl (by decide) rfl (fun ls hl => ?_)
      refine lv_iinc (v := nI (q + 1 + 1)) (lv' := [(4, .int (nI (q + 1 + 1))), (2, .long (lN (((cmb b pt q) * (pt (q + 1) ^ wgt b (q + 1) 16 % 2147483579)) % 2147483579))), (0, .ref (ad 77)), (1, .int (nI b)), (5, .long (lN (ovr b (q + 1) n))), (7, .long (lN (und b (q + 1) n)))]) hx hb dX5_combined_138 hl (k := 3) rfl (nI_1 (q + 1)) (by decide) rfl (fun ls hl => ?_)
      refine lv_goto (tgt := 5) hx hb dX5_combined_141 (by decide) ?_
      refine ih (q + 1)  ls H locs (by omega)  hw (lv_sub hl [2, 3, 1, 0] (by rw [show cmb b pt (q + 1) = _ from if_pos (by omega)]; rfl))
    · rw [nI_z (by omega)] at h1
      refine lv_goto (tgt := 138) hx hb dX5_combined_23 (by decide) ?_
      refine lv_iinc (v := nI (q + 1 + 1)) (lv' := [(4, .int (nI (q + 1 + 1))), (0, .ref (ad 77)), (1, .int (nI b)), (2, .long (lN (cmb b pt q)))]) hx hb dX5_combined_138 hl (k := 3) rfl (nI_1 (q + 1)) (by decide) rfl (fun ls hl => ?_)
      refine lv_goto (tgt := 5) hx hb dX5_combined_141 (by decide) ?_
      refine ih (q + 1)  ls H locs (by omega)  hw (lv_sub hl [1, 2, 3, 0] (by rw [show cmb b pt (q + 1) = cmb b pt q from if_neg (by omega)]; rfl))
set_option maxHeartbeats 4000000 in
set_option maxRecDepth 100000 in
theorem k5_combined (l : Launch) {D : va_G} {cI cJ cZ cD : ClassId} {ad : Nat → Nat} {w : Nat → va_E} {sz : Nat} (cd : Int32) (n t cl qu en kp : Nat) (hs : Int64) (plf : Nat → Int64) (hn : n ≤ 16) (b : Nat) (hb0 : b < 2 ^ 17) (hbb : ∀ k, tb b k = 1 → 1 ≤ k ∧ k ≤ n) (pt : Nat → Nat) (hpt : ∀ k, tb b k = 1 → plf k = lN (pt k) ∧ pt k < 2147483579)  (hM : w 77 = .inr (4, [.int cd, .int (nI n), .int (nI t), .int (nI cl), .ref (ad 78), .ref (ad 79), .ref (ad 80), .ref (ad 81), .ref (ad 82), .ref (ad 83), .int (nI qu), .ref (ad 84), .ref (ad 85), .ref (ad 86), .int (nI en), .int (nI kp), .ref (ad 87), .long hs])) (hPl : w 87 = .inl (cJ, 17, .inr (.inl plf))) : MW l yX5_combined (.code yX5_combined cX5_combined 10 (some .long)) ({ frames := 2, cells := 0, slots := 0, locals := 72 }) [.ref (ad 77), .int (nI b)] D (tyL cI cJ cZ cD) ad 89 w sz (some (.long (lN (cmb b pt 16)))) (fun u => u = w) := by
  refine MW.of (by decide) (Nat.le_of_ble_eq_true rfl) ?_
  intro p e s m below meth c ls hC hr hlocks hl hw
  obtain ⟨hx, hb, hml, hown, hts⟩ := id hC
  have hA : ∀ q, s.heap.size ≤ q → xA ad 89 s.heap.size q := fun q h => Or.inr h
  have hl : lv_has ls 10 [(0, .ref (ad 77)), (1, .int (nI b))] := hl
  refine lv_lconst (v := lN 1) hx hb dX5_combined_0 (by decide) ?_
  refine lv_lstore_n (lv' := [(2, .long (lN 1)), (0, .ref (ad 77)), (1, .int (nI b))]) hx hb dX5_combined_1 rfl hl (by decide) rfl (fun ls hl => ?_)
  refine lv_iconst (v := nI 1) hx hb dX5_combined_2 (by decide) ?_
  refine lv_istore (lv' := [(4, .int (nI 1)), (2, .long (lN 1)), (0, .ref (ad 77)), (1, .int (nI b))]) hx hb dX5_combined_3 hl (by decide) rfl (fun ls hl => ?_)
  refine k5_comb_out hC hA cd n t cl qu en kp hs plf hn b hb0 hbb pt hpt hM hPl (fun ls H locs hw hl => ?_) n 0 ls s.heap [] (by omega) hw (lv_sub hl [2, 3, 1, 0] rfl)
  refine lv_lload_n hx hb dX5_combined_144 rfl (lv_at hl 0 rfl) ?_
  rw [cmb16 hn hbb]
  exact x_wretL hx hb hr hlocks hw rfl dX5_combined_145
set_option maxHeartbeats 4000000 in
set_option maxRecDepth 100000 in
theorem k5_value_loop {l : Launch} {p : Program} {e : Env} {s : State} {m : MethodId} {args : Array Value} {below : List Frame} {meth : Method} {c : Code} {Q : State → Prop} {D : va_G} {cI cJ cZ cD : ClassId} {ad : Nat → Nat} {A : Nat → Prop} {H0 : Heap} {w : Nat → va_E} (hC : CallFix p m c cX5_value 4 s args wsL_law RX5) (hA : ∀ q, H0.size ≤ q → A q) (cd : Int32) (n t cl qu en kp : Nat) (hs : Int64) (hn : n ≤ 16) (x : Int32) (hM : w 77 = .inr (4, [.int cd, .int (nI n), .int (nI t), .int (nI cl), .ref (ad 78), .ref (ad 79), .ref (ad 80), .ref (ad 81), .ref (ad 82), .ref (ad 83), .int (nI qu), .ref (ad 84), .ref (ad 85), .ref (ad 86), .int (nI en), .int (nI kp), .ref (ad 87), .long hs]))
    (kx : ∀  (ls : Array Slot) (H : Heap) (locs : List Loc),  WW D vwCl (tyL cI cJ cZ cD) A H0 ad 89 w s H locs → lv_has ls 4 [(0, .ref (ad 77)), (1, .int x), (2, .int (mnR x n))] → W p l e ({ frames := 3, cells := 0, slots := 0, locals := 109 }) s m args below meth c H locs 0 0 Q (F0 m 26 ls [])) :
    ∀ (j q : Nat)  (ls : Array Slot) (H : Heap) (locs : List Loc), q + j = n →  WW D vwCl (tyL cI cJ cZ cD) A H0 ad 89 w s H locs → lv_has ls 4 [(0, .ref (ad 77)), (1, .int x), (2, .int (mnR x q)), (3, .int (nI (q + 1)))] → W p l e ({ frames := 3, cells := 0, slots := 0, locals := 109 }) s m args below meth c H locs 0 0 Q (F0 m 4 ls []) := by
  obtain ⟨hx, hb, hml, hown, hts⟩ := id hC
  intro j
  induction j with
  | zero =>
    intro q  ls H locs hq  hw hl
    obtain rfl : n = q := by omega
    have hl : lv_has ls 4 [(0, .ref (ad 77)), (1, .int x), (2, .int (mnR x n)), (3, .int (nI (n + 1)))] := hl
    refine lv_iload_n hx hb dX5_value_4 rfl (lv_at hl 3 rfl) ?_
    refine lv_aload_n hx hb dX5_value_5 rfl (lv_at hl 0 rfl) ?_
    refine gf_X5_59 hx hb hts hown hw (by decide) hM rfl dX5_value_6 ?_
    refine lv_icmp_gt (tgt := 26) hx hb dX5_value_9 (by decide) (fun hc => ?_) (fun hc => absurd (nI_lt (by omega) (by omega)) hc)
    exact kx  ls H locs  hw (lv_sub hl [0, 1, 2] rfl)
  | succ j ih =>
    intro q  ls H locs hq  hw hl
    refine lv_iload_n hx hb dX5_value_4 rfl (lv_at hl 3 rfl) ?_
    refine lv_aload_n hx hb dX5_value_5 rfl (lv_at hl 0 rfl) ?_
    refine gf_X5_59 hx hb hts hown hw (by decide) hM rfl dX5_value_6 ?_
    refine lv_icmp_gt (tgt := 26) hx hb dX5_value_9 (by decide) (fun hc => absurd hc (nI_nlt (by omega) (by omega))) (fun hc => ?_)
    refine lv_iload_n hx hb dX5_value_12 rfl (lv_at hl 2 rfl) ?_
    refine lv_iload_n hx hb dX5_value_13 rfl (lv_at hl 1 rfl) ?_
    refine lv_iload_n hx hb dX5_value_14 rfl (lv_at hl 3 rfl) ?_
    refine lv_ishr hx hb dX5_value_15 ?_
    refine lv_iconst (v := nI 1) hx hb dX5_value_16 (by decide) ?_
    refine lv_iand hx hb dX5_value_17 ?_
    refine lv_iadd hx hb dX5_value_18 ?_
    refine lv_istore_n (lv' := [(2, .int ((mnR x q) + ((x >>> ((nI (q + 1)) &&& 31)) &&& (nI 1)))), (0, .ref (ad 77)), (1, .int x), (3, .int (nI (q + 1)))]) hx hb dX5_value_19 rfl hl (by decide) rfl (fun ls hl => ?_)
    refine lv_iinc (v := nI (q + 1 + 1)) (lv' := [(3, .int (nI (q + 1 + 1))), (2, .int ((mnR x q) + ((x >>> ((nI (q + 1)) &&& 31)) &&& (nI 1)))), (0, .ref (ad 77)), (1, .int x)]) hx hb dX5_value_20 hl (k := 3) rfl (nI_1 (q + 1)) (by decide) rfl (fun ls hl => ?_)
    refine lv_goto (tgt := 4) hx hb dX5_value_23 (by decide) ?_
    refine ih (q + 1)  ls H locs (by omega)  hw (lv_sub hl [2, 3, 1, 0] rfl)
set_option maxHeartbeats 4000000 in
set_option maxRecDepth 100000 in
theorem m_value (l : Launch) {D : va_G} {cI cJ cZ cD : ClassId} {ad : Nat → Nat} {w : Nat → va_E} {sz : Nat} (n t cl qu en kp : Nat) (dl ou cp ks pt : Nat → Nat) (co sh : Nat → Nat → Nat) (vs : Nat → Int64) (cd : Int32) (hok : OkS n t cl qu en kp dl ou cp ks pt co sh) (hRM : RM ad cJ cZ w cd n t cl qu en kp dl ou cp ks pt co sh vs) (b : Nat) (hb0 : b < 2 ^ 17) (hsub : ∀ k, tb b k = 1 → tb kp k = 1) (hv : vOk t kp (nI b)) (hcl0 : cl = 1)  : MW l yX5_value (.code yX5_value cX5_value 4 (some .int)) ({ frames := 3, cells := 0, slots := 0, locals := 109 }) [.ref (ad 77), .int (nI b)] D (tyL cI cJ cZ cD) ad 89 w sz (some (.int (nI (cmb b pt 16)))) (fun u => (∀ z, z < 77 ∨ 87 < z → u z = w z) ∧ RM ad cJ cZ u (nI 0) n t 1 qu en kp dl ou cp ks pt co sh vs) := by
  refine MW.of (by decide) (Nat.le_of_ble_eq_true rfl) ?_
  intro p e s m below meth c ls hC hr hlocks hl hw
  obtain ⟨hx, hb, hml, hown, hts⟩ := id hC
  have hA : ∀ q, s.heap.size ≤ q → xA ad 89 s.heap.size q := fun q h => Or.inr h
  have hl : lv_has ls 4 [(0, .ref (ad 77)), (1, .int (nI b))] := hl
  obtain ⟨⟨hs, hM⟩, ⟨dz, oz, hDz, hOz, hdo⟩, ⟨cf, mf, sf, hCf, hMf, hSf, hcs⟩, ⟨xf, hXf, hxx⟩, ⟨kyf, swf, hKy, hSw, hks⟩, ⟨vlf, hVl, hvl⟩, ⟨plf, hPl, hpl⟩⟩ := id hRM
  obtain ⟨⟨hn, ht, hcl, hqu, hen, hkp⟩, hle, ⟨hqb, hkb, hcb⟩, hvals, hclv, hptl, ⟨hz1, hz2, hz3⟩⟩ := id hok
  subst hcl0
  have hbb : ∀ k, tb b k = 1 → 1 ≤ k ∧ k ≤ n := fun k q => hkb k (hsub k q)
  have hpc := pcN_le b
  have hvt : pcN b = t := by have h1 := hv.1; rw [bc_pc (by omega)] at h1; exact (nI_eq (by omega) (by omega)).mp h1
  refine lv_iconst (v := nI 0) hx hb dX5_value_0 (by decide) ?_
  refine lv_istore_n (lv' := [(2, .int (nI 0)), (0, .ref (ad 77)), (1, .int (nI b))]) hx hb dX5_value_1 rfl hl (by decide) rfl (fun ls hl => ?_)
  refine lv_iconst (v := nI 1) hx hb dX5_value_2 (by decide) ?_
  refine lv_istore_n (lv' := [(3, .int (nI 1)), (2, .int (nI 0)), (0, .ref (ad 77)), (1, .int (nI b))]) hx hb dX5_value_3 rfl hl (by decide) rfl (fun ls hl => ?_)
  refine k5_value_loop hC hA cd n t _ qu en kp hs hn (nI b) hM (fun ls H locs hw hl => ?_) n 0 ls s.heap [] (by omega) hw (lv_sub hl [2, 3, 1, 0] rfl)
  rw [mnR_nat (by omega) n hn, pc_cnt hn hbb, hvt] at hl
  refine lv_aload_n hx hb dX5_value_26 rfl (lv_at hl 0 rfl) ?_
  refine lv_aload_n hx hb dX5_value_27 rfl (lv_at hl 0 rfl) ?_
  refine gf_X5_71 hx hb hts hown hw (by decide) hM rfl dX5_value_28 ?_
  refine lv_if_ne (tgt := 38) hx hb dX5_value_31 (by decide) (fun q_1 => ?_) (fun q_1 => absurd q_1 (by decide))
  refine lv_iload_n hx hb dX5_value_38 rfl (lv_at hl 1 rfl) ?_
  refine lv_aload_n hx hb dX5_value_39 rfl (lv_at hl 0 rfl) ?_
  refine gf_X5_81 hx hb hts hown hw (by decide) hM rfl dX5_value_40 ?_
  refine lv_iconst (v := (-1)) hx hb dX5_value_43 (by decide) ?_
  refine lv_ixor hx hb dX5_value_44 ?_
  refine lv_iand hx hb dX5_value_45 ?_
  refine lv_if_ne (tgt := 57) hx hb dX5_value_46 (by decide) (fun q2 => absurd hv.2 q2) (fun q2 => ?_)
  refine lv_iload_n hx hb dX5_value_49 rfl (lv_at hl 2 rfl) ?_
  refine lv_aload_n hx hb dX5_value_50 rfl (lv_at hl 0 rfl) ?_
  refine gf_X5_68 hx hb hts hown hw (by decide) hM rfl dX5_value_51 ?_
  refine lv_icmp_eq (tgt := 61) hx hb dX5_value_54 (by decide) (fun q3 => ?_) (fun q3 => absurd rfl q3)
  refine lv_iconst (v := nI 0) hx hb dX5_value_61 (by decide) ?_
  refine x_callW1 (As := [.int (nI 0)]) (rest := []) hC vf_X5_64 hw hA (by decide) hM rfl rfl (k5_refuses0 l _ _ _ _ _ _ _ _ hM) ⟨rfl, rfl, Nat.le_of_ble_eq_true rfl, Nat.le_of_ble_eq_true rfl⟩ hl.1 (Nat.le_of_ble_eq_true rfl) dX5_value_62 ⟨Nat.zero_le _, Nat.zero_le _⟩ rfl (fun w_3 H locs hu_2 hw => ?_)
  have hc_4 : w_3 77 = .inr (4, [.int (nI 0), .int (nI n), .int (nI t), .int (nI 1), .ref (ad 78), .ref (ad 79), .ref (ad 80), .ref (ad 81), .ref (ad 82), .ref (ad 83), .int (nI qu), .ref (ad 84), .ref (ad 85), .ref (ad 86), .int (nI en), .int (nI kp), .ref (ad 87), .long hs]) := by rw [hu_2]; exact va_up_self _ _ _
  have hc_5 : w_3 78 = .inl (cZ, 17, .inl dz) := by rw [hu_2, va_up_ne _ _ (by decide)]; exact hDz
  have hc_6 : w_3 79 = .inl (cZ, 17, .inl oz) := by rw [hu_2, va_up_ne _ _ (by decide)]; exact hOz
  have hc_7 : w_3 80 = .inl (cJ, 289, .inr (.inl cf)) := by rw [hu_2, va_up_ne _ _ (by decide)]; exact hCf
  have hc_8 : w_3 81 = .inl (cJ, 289, .inr (.inl mf)) := by rw [hu_2, va_up_ne _ _ (by decide)]; exact hMf
  have hc_9 : w_3 82 = .inl (cJ, 289, .inr (.inl sf)) := by rw [hu_2, va_up_ne _ _ (by decide)]; exact hSf
  have hc_10 : w_3 83 = .inl (cZ, 289, .inl xf) := by rw [hu_2, va_up_ne _ _ (by decide)]; exact hXf
  have hc_11 : w_3 84 = .inl (cJ, 17, .inr (.inl kyf)) := by rw [hu_2, va_up_ne _ _ (by decide)]; exact hKy
  have hc_12 : w_3 85 = .inl (cJ, 17, .inr (.inl swf)) := by rw [hu_2, va_up_ne _ _ (by decide)]; exact hSw
  have hc_13 : w_3 86 = .inl (cJ, 301, .inr (.inl vlf)) := by rw [hu_2, va_up_ne _ _ (by decide)]; exact hVl
  have hc_14 : w_3 87 = .inl (cJ, 17, .inr (.inl plf)) := by rw [hu_2, va_up_ne _ _ (by decide)]; exact hPl
  refine lv_if_eq (tgt := 70) hx hb dX5_value_65 (by decide) (fun q_15 => ?_) (fun q_15 => absurd (by decide) q_15)
  have hcm := cmb_lt b pt 16
  refine lv_aload_n hx hb dX5_value_70 rfl (lv_at hl 0 rfl) ?_
  refine lv_iload_n hx hb dX5_value_71 rfl (lv_at hl 1 rfl) ?_
  refine x_callW1 (As := [.int (nI b)]) (rest := []) hC vf_X5_139 hw hA (by decide) hc_4 rfl rfl (k5_combined l _ _ _ _ _ _ _ _ plf hn b hb0 hbb pt (fun k q => ⟨hpl k (hsub k q), hptl k (hsub k q)⟩) hc_4 hc_14) ⟨rfl, rfl, Nat.le_of_ble_eq_true rfl, Nat.le_of_ble_eq_true rfl⟩ hl.1 (Nat.le_of_ble_eq_true rfl) dX5_value_72 ⟨Nat.zero_le _, Nat.zero_le _⟩ rfl (fun w_16 H locs hu hw => ?_)
  rw [hu] at hw
  refine lv_l2i hx hb dX5_value_75 (lN_i _) ?_
  have hfr : ∀ z, z ≠ 77 → w_3 z = w z := fun z hhfr0 => by rw [hu_2, va_up_ne _ _ hhfr0]
  exact x_wretI hx hb hr hlocks hw ⟨fun z hz => hfr z (by omega), RM.set77 hRM hfr hc_4⟩ dX5_value_76
set_option maxHeartbeats 4000000 in
set_option maxRecDepth 100000 in
theorem m_valueS (l : Launch) {D : va_G} {cI cJ cZ cD : ClassId} {ad : Nat → Nat} {w : Nat → va_E} {sz : Nat} (n t cl qu en kp : Nat) (dl ou cp ks pt : Nat → Nat) (co sh : Nat → Nat → Nat) (vs : Nat → Int64) (cd : Int32) (hok : OkS n t cl qu en kp dl ou cp ks pt co sh) (hRM : RM ad cJ cZ w cd n t cl qu en kp dl ou cp ks pt co sh vs) (x : Int32) (hcl0 : cl = 0)  : MW l yX5_value (.code yX5_value cX5_value 4 (some .int)) ({ frames := 3, cells := 0, slots := 0, locals := 109 }) [.ref (ad 77), .int x] D (tyL cI cJ cZ cD) ad 89 w sz (some (.int (nI 0))) (fun u => (∀ z, z < 77 ∨ 87 < z → u z = w z) ∧ RM ad cJ cZ u (nI 1) n t 0 qu en kp dl ou cp ks pt co sh vs) := by
  refine MW.of (by decide) (Nat.le_of_ble_eq_true rfl) ?_
  intro p e s m below meth c ls hC hr hlocks hl hw
  obtain ⟨hx, hb, hml, hown, hts⟩ := id hC
  have hA : ∀ q, s.heap.size ≤ q → xA ad 89 s.heap.size q := fun q h => Or.inr h
  have hl : lv_has ls 4 [(0, .ref (ad 77)), (1, .int x)] := hl
  obtain ⟨⟨hs, hM⟩, ⟨dz, oz, hDz, hOz, hdo⟩, ⟨cf, mf, sf, hCf, hMf, hSf, hcs⟩, ⟨xf, hXf, hxx⟩, ⟨kyf, swf, hKy, hSw, hks⟩, ⟨vlf, hVl, hvl⟩, ⟨plf, hPl, hpl⟩⟩ := id hRM
  obtain ⟨⟨hn, ht, hcl, hqu, hen, hkp⟩, hle, ⟨hqb, hkb, hcb⟩, hvals, hclv, hptl, ⟨hz1, hz2, hz3⟩⟩ := id hok
  subst hcl0
  refine lv_iconst (v := nI 0) hx hb dX5_value_0 (by decide) ?_
  refine lv_istore_n (lv' := [(2, .int (nI 0)), (0, .ref (ad 77)), (1, .int x)]) hx hb dX5_value_1 rfl hl (by decide) rfl (fun ls hl => ?_)
  refine lv_iconst (v := nI 1) hx hb dX5_value_2 (by decide) ?_
  refine lv_istore_n (lv' := [(3, .int (nI 1)), (2, .int (nI 0)), (0, .ref (ad 77)), (1, .int x)]) hx hb dX5_value_3 rfl hl (by decide) rfl (fun ls hl => ?_)
  refine k5_value_loop hC hA cd n t _ qu en kp hs hn (x) hM (fun ls H locs hw hl => ?_) n 0 ls s.heap [] (by omega) hw (lv_sub hl [2, 3, 1, 0] rfl)
  refine lv_aload_n hx hb dX5_value_26 rfl (lv_at hl 0 rfl) ?_
  refine lv_aload_n hx hb dX5_value_27 rfl (lv_at hl 0 rfl) ?_
  refine gf_X5_71 hx hb hts hown hw (by decide) hM rfl dX5_value_28 ?_
  refine lv_if_ne (tgt := 38) hx hb dX5_value_31 (by decide) (fun q_1 => absurd (by decide) q_1) (fun q_1 => ?_)
  refine lv_iconst (v := nI 1) hx hb dX5_value_34 (by decide) ?_
  refine lv_goto (tgt := 62) hx hb dX5_value_35 (by decide) ?_
  refine x_callW1 (As := [.int (nI 1)]) (rest := []) hC vf_X5_64 hw hA (by decide) hM rfl rfl (k5_refuses1 l _ _ _ _ _ _ _ _ hM) ⟨rfl, rfl, Nat.le_of_ble_eq_true rfl, Nat.le_of_ble_eq_true rfl⟩ hl.1 (Nat.le_of_ble_eq_true rfl) dX5_value_62 ⟨Nat.zero_le _, Nat.zero_le _⟩ rfl (fun w_3 H locs hu_2 hw => ?_)
  have hc_4 : w_3 77 = .inr (4, [.int (nI 1), .int (nI n), .int (nI t), .int (nI 0), .ref (ad 78), .ref (ad 79), .ref (ad 80), .ref (ad 81), .ref (ad 82), .ref (ad 83), .int (nI qu), .ref (ad 84), .ref (ad 85), .ref (ad 86), .int (nI en), .int (nI kp), .ref (ad 87), .long hs]) := by rw [hu_2]; exact va_up_self _ _ _
  have hc_5 : w_3 78 = .inl (cZ, 17, .inl dz) := by rw [hu_2, va_up_ne _ _ (by decide)]; exact hDz
  have hc_6 : w_3 79 = .inl (cZ, 17, .inl oz) := by rw [hu_2, va_up_ne _ _ (by decide)]; exact hOz
  have hc_7 : w_3 80 = .inl (cJ, 289, .inr (.inl cf)) := by rw [hu_2, va_up_ne _ _ (by decide)]; exact hCf
  have hc_8 : w_3 81 = .inl (cJ, 289, .inr (.inl mf)) := by rw [hu_2, va_up_ne _ _ (by decide)]; exact hMf
  have hc_9 : w_3 82 = .inl (cJ, 289, .inr (.inl sf)) := by rw [hu_2, va_up_ne _ _ (by decide)]; exact hSf
  have hc_10 : w_3 83 = .inl (cZ, 289, .inl xf) := by rw [hu_2, va_up_ne _ _ (by decide)]; exact hXf
  have hc_11 : w_3 84 = .inl (cJ, 17, .inr (.inl kyf)) := by rw [hu_2, va_up_ne _ _ (by decide)]; exact hKy
  have hc_12 : w_3 85 = .inl (cJ, 17, .inr (.inl swf)) := by rw [hu_2, va_up_ne _ _ (by decide)]; exact hSw
  have hc_13 : w_3 86 = .inl (cJ, 301, .inr (.inl vlf)) := by rw [hu_2, va_up_ne _ _ (by decide)]; exact hVl
  have hc_14 : w_3 87 = .inl (cJ, 17, .inr (.inl plf)) := by rw [hu_2, va_up_ne _ _ (by decide)]; exact hPl
  refine lv_if_eq (tgt := 70) hx hb dX5_value_65 (by decide) (fun q_15 => absurd q_15 (by decide)) (fun q_15 => ?_)
  refine lv_iconst (v := nI 0) hx hb dX5_value_68 (by decide) ?_
  have hfr : ∀ z, z ≠ 77 → w_3 z = w z := fun z hhfr0 => by rw [hu_2, va_up_ne _ _ hhfr0]
  exact x_wretI hx hb hr hlocks hw ⟨fun z hz => hfr z (by omega), RM.set77 hRM hfr hc_4⟩ dX5_value_69
set_option maxHeartbeats 4000000 in
set_option maxRecDepth 100000 in
theorem m_valueA (l : Launch) {D : va_G} {cI cJ cZ cD : ClassId} {ad : Nat → Nat} {w : Nat → va_E} {sz : Nat} (n t cl qu en kp : Nat) (dl ou cp ks pt : Nat → Nat) (co sh : Nat → Nat → Nat) (vs : Nat → Int64) (cd : Int32) (hok : OkS n t cl qu en kp dl ou cp ks pt co sh) (hRM : RM ad cJ cZ w cd n t cl qu en kp dl ou cp ks pt co sh vs) (x : Int32) (hcl0 : cl = 1) (hbad : ¬ vOk t kp x)  : MW l yX5_value (.code yX5_value cX5_value 4 (some .int)) ({ frames := 3, cells := 0, slots := 0, locals := 109 }) [.ref (ad 77), .int x] D (tyL cI cJ cZ cD) ad 89 w sz (some (.int (nI 0))) (fun u => (∀ z, z < 77 ∨ 87 < z → u z = w z) ∧ RM ad cJ cZ u (nI 2) n t 1 qu en kp dl ou cp ks pt co sh vs) := by
  refine MW.of (by decide) (Nat.le_of_ble_eq_true rfl) ?_
  intro p e s m below meth c ls hC hr hlocks hl hw
  obtain ⟨hx, hb, hml, hown, hts⟩ := id hC
  have hA : ∀ q, s.heap.size ≤ q → xA ad 89 s.heap.size q := fun q h => Or.inr h
  have hl : lv_has ls 4 [(0, .ref (ad 77)), (1, .int x)] := hl
  obtain ⟨⟨hs, hM⟩, ⟨dz, oz, hDz, hOz, hdo⟩, ⟨cf, mf, sf, hCf, hMf, hSf, hcs⟩, ⟨xf, hXf, hxx⟩, ⟨kyf, swf, hKy, hSw, hks⟩, ⟨vlf, hVl, hvl⟩, ⟨plf, hPl, hpl⟩⟩ := id hRM
  obtain ⟨⟨hn, ht, hcl, hqu, hen, hkp⟩, hle, ⟨hqb, hkb, hcb⟩, hvals, hclv, hptl, ⟨hz1, hz2, hz3⟩⟩ := id hok
  subst hcl0
  refine lv_iconst (v := nI 0) hx hb dX5_value_0 (by decide) ?_
  refine lv_istore_n (lv' := [(2, .int (nI 0)), (0, .ref (ad 77)), (1, .int x)]) hx hb dX5_value_1 rfl hl (by decide) rfl (fun ls hl => ?_)
  refine lv_iconst (v := nI 1) hx hb dX5_value_2 (by decide) ?_
  refine lv_istore_n (lv' := [(3, .int (nI 1)), (2, .int (nI 0)), (0, .ref (ad 77)), (1, .int x)]) hx hb dX5_value_3 rfl hl (by decide) rfl (fun ls hl => ?_)
  refine k5_value_loop hC hA cd n t _ qu en kp hs hn (x) hM (fun ls H locs hw hl => ?_) n 0 ls s.heap [] (by omega) hw (lv_sub hl [2, 3, 1, 0] rfl)
  refine lv_aload_n hx hb dX5_value_26 rfl (lv_at hl 0 rfl) ?_
  refine lv_aload_n hx hb dX5_value_27 rfl (lv_at hl 0 rfl) ?_
  refine gf_X5_71 hx hb hts hown hw (by decide) hM rfl dX5_value_28 ?_
  refine lv_if_ne (tgt := 38) hx hb dX5_value_31 (by decide) (fun q_1 => ?_) (fun q_1 => absurd q_1 (by decide))
  refine lv_iload_n hx hb dX5_value_38 rfl (lv_at hl 1 rfl) ?_
  refine lv_aload_n hx hb dX5_value_39 rfl (lv_at hl 0 rfl) ?_
  refine gf_X5_81 hx hb hts hown hw (by decide) hM rfl dX5_value_40 ?_
  refine lv_iconst (v := (-1)) hx hb dX5_value_43 (by decide) ?_
  refine lv_ixor hx hb dX5_value_44 ?_
  refine lv_iand hx hb dX5_value_45 ?_
  refine lv_if_ne (tgt := 57) hx hb dX5_value_46 (by decide) (fun q2 => ?_) (fun q2 => ?_)
  · skip
    refine lv_iconst (v := nI 2) hx hb dX5_value_57 (by decide) ?_
    refine lv_goto (tgt := 62) hx hb dX5_value_58 (by decide) ?_
    refine x_callW1 (As := [.int (nI 2)]) (rest := []) hC vf_X5_64 hw hA (by decide) hM rfl rfl (k5_refuses2 l _ _ _ _ _ _ _ _ hM) ⟨rfl, rfl, Nat.le_of_ble_eq_true rfl, Nat.le_of_ble_eq_true rfl⟩ hl.1 (Nat.le_of_ble_eq_true rfl) dX5_value_62 ⟨Nat.zero_le _, Nat.zero_le _⟩ rfl (fun w_3 H locs hu_2 hw => ?_)
    have hc_4 : w_3 77 = .inr (4, [.int (nI 2), .int (nI n), .int (nI t), .int (nI 1), .ref (ad 78), .ref (ad 79), .ref (ad 80), .ref (ad 81), .ref (ad 82), .ref (ad 83), .int (nI qu), .ref (ad 84), .ref (ad 85), .ref (ad 86), .int (nI en), .int (nI kp), .ref (ad 87), .long hs]) := by rw [hu_2]; exact va_up_self _ _ _
    have hc_5 : w_3 78 = .inl (cZ, 17, .inl dz) := by rw [hu_2, va_up_ne _ _ (by decide)]; exact hDz
    have hc_6 : w_3 79 = .inl (cZ, 17, .inl oz) := by rw [hu_2, va_up_ne _ _ (by decide)]; exact hOz
    have hc_7 : w_3 80 = .inl (cJ, 289, .inr (.inl cf)) := by rw [hu_2, va_up_ne _ _ (by decide)]; exact hCf
    have hc_8 : w_3 81 = .inl (cJ, 289, .inr (.inl mf)) := by rw [hu_2, va_up_ne _ _ (by decide)]; exact hMf
    have hc_9 : w_3 82 = .inl (cJ, 289, .inr (.inl sf)) := by rw [hu_2, va_up_ne _ _ (by decide)]; exact hSf
    have hc_10 : w_3 83 = .inl (cZ, 289, .inl xf) := by rw [hu_2, va_up_ne _ _ (by decide)]; exact hXf
    have hc_11 : w_3 84 = .inl (cJ, 17, .inr (.inl kyf)) := by rw [hu_2, va_up_ne _ _ (by decide)]; exact hKy
    have hc_12 : w_3 85 = .inl (cJ, 17, .inr (.inl swf)) := by rw [hu_2, va_up_ne _ _ (by decide)]; exact hSw
    have hc_13 : w_3 86 = .inl (cJ, 301, .inr (.inl vlf)) := by rw [hu_2, va_up_ne _ _ (by decide)]; exact hVl
    have hc_14 : w_3 87 = .inl (cJ, 17, .inr (.inl plf)) := by rw [hu_2, va_up_ne _ _ (by decide)]; exact hPl
    refine lv_if_eq (tgt := 70) hx hb dX5_value_65 (by decide) (fun q_15 => absurd q_15 (by decide)) (fun q_15 => ?_)
    refine lv_iconst (v := nI 0) hx hb dX5_value_68 (by decide) ?_
    have hfr : ∀ z, z ≠ 77 → w_3 z = w z := fun z hhfr0 => by rw [hu_2, va_up_ne _ _ hhfr0]
    exact x_wretI hx hb hr hlocks hw ⟨fun z hz => hfr z (by omega), RM.set77 hRM hfr hc_4⟩ dX5_value_69
  · skip
    obtain ⟨b0, hb0, rfl, hsub⟩ := vOk_of hkp q2
    have hbb : ∀ k, tb b0 k = 1 → 1 ≤ k ∧ k ≤ n := fun k q => hkb k (hsub k q)
    have hpc := pcN_le b0
    rw [mnR_nat (by omega) n hn, pc_cnt hn hbb] at hl
    refine lv_iload_n hx hb dX5_value_49 rfl (lv_at hl 2 rfl) ?_
    refine lv_aload_n hx hb dX5_value_50 rfl (lv_at hl 0 rfl) ?_
    refine gf_X5_68 hx hb hts hown hw (by decide) hM rfl dX5_value_51 ?_
    refine lv_icmp_eq (tgt := 61) hx hb dX5_value_54 (by decide) (fun q3 => absurd q3 (fun q => hbad ⟨(bc_pc (by omega)).trans q, q2⟩)) (fun q3 => ?_)
    refine lv_iconst (v := nI 2) hx hb dX5_value_57 (by decide) ?_
    refine lv_goto (tgt := 62) hx hb dX5_value_58 (by decide) ?_
    refine x_callW1 (As := [.int (nI 2)]) (rest := []) hC vf_X5_64 hw hA (by decide) hM rfl rfl (k5_refuses2 l _ _ _ _ _ _ _ _ hM) ⟨rfl, rfl, Nat.le_of_ble_eq_true rfl, Nat.le_of_ble_eq_true rfl⟩ hl.1 (Nat.le_of_ble_eq_true rfl) dX5_value_62 ⟨Nat.zero_le _, Nat.zero_le _⟩ rfl (fun w_17 H locs hu_16 hw => ?_)
    have hc_18 : w_17 77 = .inr (4, [.int (nI 2), .int (nI n), .int (nI t), .int (nI 1), .ref (ad 78), .ref (ad 79), .ref (ad 80), .ref (ad 81), .ref (ad 82), .ref (ad 83), .int (nI qu), .ref (ad 84), .ref (ad 85), .ref (ad 86), .int (nI en), .int (nI kp), .ref (ad 87), .long hs]) := by rw [hu_16]; exact va_up_self _ _ _
    have hc_19 : w_17 78 = .inl (cZ, 17, .inl dz) := by rw [hu_16, va_up_ne _ _ (by decide)]; exact hDz
    have hc_20 : w_17 79 = .inl (cZ, 17, .inl oz) := by rw [hu_16, va_up_ne _ _ (by decide)]; exact hOz
    have hc_21 : w_17 80 = .inl (cJ, 289, .inr (.inl cf)) := by rw [hu_16, va_up_ne _ _ (by decide)]; exact hCf
    have hc_22 : w_17 81 = .inl (cJ, 289, .inr (.inl mf)) := by rw [hu_16, va_up_ne _ _ (by decide)]; exact hMf
    have hc_23 : w_17 82 = .inl (cJ, 289, .inr (.inl sf)) := by rw [hu_16, va_up_ne _ _ (by decide)]; exact hSf
    have hc_24 : w_17 83 = .inl (cZ, 289, .inl xf) := by rw [hu_16, va_up_ne _ _ (by decide)]; exact hXf
    have hc_25 : w_17 84 = .inl (cJ, 17, .inr (.inl kyf)) := by rw [hu_16, va_up_ne _ _ (by decide)]; exact hKy
    have hc_26 : w_17 85 = .inl (cJ, 17, .inr (.inl swf)) := by rw [hu_16, va_up_ne _ _ (by decide)]; exact hSw
    have hc_27 : w_17 86 = .inl (cJ, 301, .inr (.inl vlf)) := by rw [hu_16, va_up_ne _ _ (by decide)]; exact hVl
    have hc_28 : w_17 87 = .inl (cJ, 17, .inr (.inl plf)) := by rw [hu_16, va_up_ne _ _ (by decide)]; exact hPl
    refine lv_if_eq (tgt := 70) hx hb dX5_value_65 (by decide) (fun q_29 => absurd q_29 (by decide)) (fun q_29 => ?_)
    refine lv_iconst (v := nI 0) hx hb dX5_value_68 (by decide) ?_
    have hfr : ∀ z, z ≠ 77 → w_17 z = w z := fun z hhfr0 => by rw [hu_16, va_up_ne _ _ hhfr0]
    exact x_wretI hx hb hr hlocks hw ⟨fun z hz => hfr z (by omega), RM.set77 hRM hfr hc_18⟩ dX5_value_69
set_option maxHeartbeats 4000000 in
set_option maxRecDepth 100000 in
theorem k5_pub_loop {l : Launch} {p : Program} {e : Env} {s : State} {m : MethodId} {args : Array Value} {below : List Frame} {meth : Method} {c : Code} {Q : State → Prop} {D : va_G} {cI cJ cZ cD : ClassId} {ad : Nat → Nat} {A : Nat → Prop} {H0 : Heap} {w : Nat → va_E} (hC : CallFix p m c cX5_publish 5 s args wsL_law RX5) (hA : ∀ q, H0.size ≤ q → A q) (cd : Int32) (n t cl qu en kp : Nat) (hs : Int64) (hn : n ≤ 16) (ht : t ≤ n) (hkp : kp < 2 ^ 17) (hM : w 77 = .inr (4, [.int cd, .int (nI n), .int (nI t), .int (nI cl), .ref (ad 78), .ref (ad 79), .ref (ad 80), .ref (ad 81), .ref (ad 82), .ref (ad 83), .int (nI qu), .ref (ad 84), .ref (ad 85), .ref (ad 86), .int (nI en), .int (nI kp), .ref (ad 87), .long hs]))
    (kx : ∀  (ls : Array Slot) (H : Heap) (locs : List Loc),  WW D vwCl (tyL cI cJ cZ cD) A H0 ad 89 w s H locs → lv_has ls 5 [(0, .ref (ad 77)), (1, .int (nI ((lst kp t n).1))), (2, .int (nI ((lst kp t n).2)))] → W p l e ({ frames := 3, cells := 0, slots := 0, locals := 109 }) s m args below meth c H locs 0 0 Q (F0 m 75 ls [])) :
    ∀ (j q : Nat)  (ls : Array Slot) (H : Heap) (locs : List Loc), q + j = n →  WW D vwCl (tyL cI cJ cZ cD) A H0 ad 89 w s H locs → lv_has ls 5 [(0, .ref (ad 77)), (1, .int (nI ((lst kp t q).1))), (2, .int (nI ((lst kp t q).2))), (3, .int (nI (q + 1)))] → W p l e ({ frames := 3, cells := 0, slots := 0, locals := 109 }) s m args below meth c H locs 0 0 Q (F0 m 6 ls []) := by
  obtain ⟨hx, hb, hml, hown, hts⟩ := id hC
  intro j
  induction j with
  | zero =>
    intro q  ls H locs hq  hw hl
    obtain rfl : n = q := by omega
    have hl : lv_has ls 5 [(0, .ref (ad 77)), (1, .int (nI ((lst kp t n).1))), (2, .int (nI ((lst kp t n).2))), (3, .int (nI (n + 1)))] := hl
    refine lv_iload_n hx hb dX5_publish_6 rfl (lv_at hl 3 rfl) ?_
    refine lv_aload_n hx hb dX5_publish_7 rfl (lv_at hl 0 rfl) ?_
    refine gf_X5_59 hx hb hts hown hw (by decide) hM rfl dX5_publish_8 ?_
    refine lv_icmp_gt (tgt := 75) hx hb dX5_publish_11 (by decide) (fun hc => ?_) (fun hc => absurd (nI_lt (by omega) (by omega)) hc)
    exact kx  ls H locs  hw (lv_sub hl [0, 1, 2] rfl)
  | succ j ih =>
    intro q  ls H locs hq  hw hl
    refine lv_iload_n hx hb dX5_publish_6 rfl (lv_at hl 3 rfl) ?_
    refine lv_aload_n hx hb dX5_publish_7 rfl (lv_at hl 0 rfl) ?_
    refine gf_X5_59 hx hb hts hown hw (by decide) hM rfl dX5_publish_8 ?_
    refine lv_icmp_gt (tgt := 75) hx hb dX5_publish_11 (by decide) (fun hc => absurd hc (nI_nlt (by omega) (by omega))) (fun hc => ?_)
    obtain ⟨hb1, hb2, hb3⟩ := lst_lt kp t q (by omega)
    have htb := tb_lt kp (q + 1)
    refine lv_iload_n hx hb dX5_publish_14 rfl (lv_at hl 2 rfl) ?_
    refine lv_aload_n hx hb dX5_publish_15 rfl (lv_at hl 0 rfl) ?_
    refine gf_X5_68 hx hb hts hown hw (by decide) hM rfl dX5_publish_16 ?_
    refine lv_icmp_ge (tgt := 38) hx hb dX5_publish_19 (by decide) (fun h1 => ?_) (fun h1 => ?_)
    · rw [nI_leI (by omega) (by omega)] at h1
      refine lv_iconst (v := nI 0) hx hb dX5_publish_38 (by decide) ?_
      refine lv_istore (lv' := [(4, .int (nI 0)), (0, .ref (ad 77)), (1, .int (nI ((lst kp t q).1))), (2, .int (nI ((lst kp t q).2))), (3, .int (nI (q + 1)))]) hx hb dX5_publish_39 hl (by decide) rfl (fun ls hl => ?_)
      refine lv_iload_n hx hb dX5_publish_41 rfl (lv_at hl 2 rfl) ?_
      refine lv_iload hx hb dX5_publish_42 (lv_at hl 0 rfl) ?_
      refine lv_if_eq (tgt := 53) hx hb dX5_publish_44 (by decide) (fun q_1 => ?_) (fun q_1 => absurd (by decide) q_1)
      refine lv_iconst (v := nI 0) hx hb dX5_publish_53 (by decide) ?_
      refine lv_ior hx hb dX5_publish_54 ?_
      rw [or_z]
      refine lv_istore_n (lv' := [(1, .int (nI ((lst kp t q).1))), (4, .int (nI 0)), (0, .ref (ad 77)), (2, .int (nI ((lst kp t q).2))), (3, .int (nI (q + 1)))]) hx hb dX5_publish_55 rfl hl (by decide) rfl (fun ls hl => ?_)
      refine lv_iload_n hx hb dX5_publish_56 rfl (lv_at hl 3 rfl) ?_
      refine lv_iload hx hb dX5_publish_57 (lv_at hl 1 rfl) ?_
      refine lv_if_eq (tgt := 66) hx hb dX5_publish_59 (by decide) (fun q_2 => ?_) (fun q_2 => absurd (by decide) q_2)
      refine lv_iconst (v := nI 0) hx hb dX5_publish_66 (by decide) ?_
      refine t_iadd hx hb dX5_publish_67 (v := nI ((lst kp t q).2 + 0)) (nI_add _ _) ?_
      refine lv_istore_n (lv' := [(2, .int (nI ((lst kp t q).2 + 0))), (1, .int (nI ((lst kp t q).1))), (4, .int (nI 0)), (0, .ref (ad 77)), (3, .int (nI (q + 1)))]) hx hb dX5_publish_68 rfl hl (by decide) rfl (fun ls hl => ?_)
      refine lv_iinc (v := nI (q + 1 + 1)) (lv' := [(3, .int (nI (q + 1 + 1))), (2, .int (nI ((lst kp t q).2 + 0))), (1, .int (nI ((lst kp t q).1))), (4, .int (nI 0)), (0, .ref (ad 77))]) hx hb dX5_publish_69 hl (k := 4) rfl (nI_1 (q + 1)) (by decide) rfl (fun ls hl => ?_)
      refine lv_goto (tgt := 6) hx hb dX5_publish_72 (by decide) ?_
      refine ih (q + 1)  ls H locs (by omega)  hw (lv_sub hl [4, 2, 1, 0] (by rw [show lst kp t (q + 1) = _ from if_neg (by omega)]; rfl))
    · rw [nI_leI (by omega) (by omega)] at h1
      refine lv_aload_n hx hb dX5_publish_22 rfl (lv_at hl 0 rfl) ?_
      refine gf_X5_81 hx hb hts hown hw (by decide) hM rfl dX5_publish_23 ?_
      refine lv_iload_n hx hb dX5_publish_26 rfl (lv_at hl 3 rfl) ?_
      refine lv_ishr hx hb dX5_publish_27 ?_
      refine lv_iconst (v := nI 1) hx hb dX5_publish_28 (by decide) ?_
      refine lv_iand hx hb dX5_publish_29 ?_
      rw [hb_val (by omega) (by omega)]
      refine lv_iconst (v := nI 1) hx hb dX5_publish_30 (by decide) ?_
      refine lv_icmp_ne (tgt := 38) hx hb dX5_publish_31 (by decide) (fun h2 => ?_) (fun h2 => ?_)
      · rw [nI_eq (by omega) (by omega)] at h2
        refine lv_iconst (v := nI 0) hx hb dX5_publish_38 (by decide) ?_
        refine lv_istore (lv' := [(4, .int (nI 0)), (0, .ref (ad 77)), (1, .int (nI ((lst kp t q).1))), (2, .int (nI ((lst kp t q).2))), (3, .int (nI (q + 1)))]) hx hb dX5_publish_39 hl (by decide) rfl (fun ls hl => ?_)
        refine lv_iload_n hx hb dX5_publish_41 rfl (lv_at hl 2 rfl) ?_
        refine lv_iload hx hb dX5_publish_42 (lv_at hl 0 rfl) ?_
        refine lv_if_eq (tgt := 53) hx hb dX5_publish_44 (by decide) (fun q_3 => ?_) (fun q_3 => absurd (by decide) q_3)
        refine lv_iconst (v := nI 0) hx hb dX5_publish_53 (by decide) ?_
        refine lv_ior hx hb dX5_publish_54 ?_
        rw [or_z]
        refine lv_istore_n (lv' := [(1, .int (nI ((lst kp t q).1))), (4, .int (nI 0)), (0, .ref (ad 77)), (2, .int (nI ((lst kp t q).2))), (3, .int (nI (q + 1)))]) hx hb dX5_publish_55 rfl hl (by decide) rfl (fun ls hl => ?_)
        refine lv_iload_n hx hb dX5_publish_56 rfl (lv_at hl 3 rfl) ?_
        refine lv_iload hx hb dX5_publish_57 (lv_at hl 1 rfl) ?_
        refine lv_if_eq (tgt := 66) hx hb dX5_publish_59 (by decide) (fun q_4 => ?_) (fun q_4 => absurd (by decide) q_4)
        refine lv_iconst (v := nI 0) hx hb dX5_publish_66 (by decide) ?_
        refine t_iadd hx hb dX5_publish_67 (v := nI ((lst kp t q).2 + 0)) (nI_add _ _) ?_
        refine lv_istore_n (lv' := [(2, .int (nI ((lst kp t q).2 + 0))), (1, .int (nI ((lst kp t q).1))), (4, .int (nI 0)), (0, .ref (ad 77)), (3, .int (nI (q + 1)))]) hx hb dX5_publish_68 rfl hl (by decide) rfl (fun ls hl => ?_)
        refine lv_iinc (v := nI (q + 1 + 1)) (lv' := [(3, .int (nI (q + 1 + 1))), (2, .int (nI ((lst kp t q).2 + 0))), (1, .int (nI ((lst kp t q).1))), (4, .int (nI 0)), (0, .ref (ad 77))]) hx hb dX5_publish_69 hl (k := 4) rfl (nI_1 (q + 1)) (by decide) rfl (fun ls hl => ?_)
        refine lv_goto (tgt := 6) hx hb dX5_publish_72 (by decide) ?_
        refine ih (q + 1)  ls H locs (by omega)  hw (lv_sub hl [4, 2, 1, 0] (by rw [show lst kp t (q + 1) = _ from if_neg (by omega)]; rfl))
      · rw [nI_eq (by omega) (by omega)] at h2
        refine lv_iconst (v := nI 1) hx hb dX5_publish_34 (by decide) ?_
        refine lv_goto (tgt := 39) hx hb dX5_publish_35 (by decide) ?_
        refine lv_istore (lv' := [(4, .int (nI 1)), (0, .ref (ad 77)), (1, .int (nI ((lst kp t q).1))), (2, .int (nI ((lst kp t q).2))), (3, .int (nI (q + 1)))]) hx hb dX5_publish_39 hl (by decide) rfl (fun ls hl => ?_)
        refine lv_iload_n hx hb dX5_publish_41 rfl (lv_at hl 2 rfl) ?_
        refine lv_iload hx hb dX5_publish_42 (lv_at hl 0 rfl) ?_
        refine lv_if_eq (tgt := 53) hx hb dX5_publish_44 (by decide) (fun q_5 => absurd q_5 (by decide)) (fun q_5 => ?_)
        refine lv_iconst (v := nI 1) hx hb dX5_publish_47 (by decide) ?_
        refine lv_iload_n hx hb dX5_publish_48 rfl (lv_at hl 4 rfl) ?_
        refine lv_ishl hx hb dX5_publish_49 ?_
        refine lv_goto (tgt := 54) hx hb dX5_publish_50 (by decide) ?_
        refine lv_ior hx hb dX5_publish_54 ?_
        rw [or_bit (by omega)]
        refine lv_istore_n (lv' := [(1, .int (nI ((lst kp t q).1 ||| 2 ^ (q + 1)))), (4, .int (nI 1)), (0, .ref (ad 77)), (2, .int (nI ((lst kp t q).2))), (3, .int (nI (q + 1)))]) hx hb dX5_publish_55 rfl hl (by decide) rfl (fun ls hl => ?_)
        refine lv_iload_n hx hb dX5_publish_56 rfl (lv_at hl 3 rfl) ?_
        refine lv_iload hx hb dX5_publish_57 (lv_at hl 1 rfl) ?_
        refine lv_if_eq (tgt := 66) hx hb dX5_publish_59 (by decide) (fun q_6 => absurd q_6 (by decide)) (fun q_6 => ?_)
        refine lv_iconst (v := nI 1) hx hb dX5_publish_62 (by decide) ?_
        refine lv_goto (tgt := 67) hx hb dX5_publish_63 (by decide) ?_
        refine t_iadd hx hb dX5_publish_67 (v := nI ((lst kp t q).2 + 1)) (nI_add _ _) ?_
        refine lv_istore_n (lv' := [(2, .int (nI ((lst kp t q).2 + 1))), (1, .int (nI ((lst kp t q).1 ||| 2 ^ (q + 1)))), (4, .int (nI 1)), (0, .ref (ad 77)), (3, .int (nI (q + 1)))]) hx hb dX5_publish_68 rfl hl (by decide) rfl (fun ls hl => ?_)
        refine lv_iinc (v := nI (q + 1 + 1)) (lv' := [(3, .int (nI (q + 1 + 1))), (2, .int (nI ((lst kp t q).2 + 1))), (1, .int (nI ((lst kp t q).1 ||| 2 ^ (q + 1)))), (4, .int (nI 1)), (0, .ref (ad 77))]) hx hb dX5_publish_69 hl (k := 4) rfl (nI_1 (q + 1)) (by decide) rfl (fun ls hl => ?_)
        refine lv_goto (tgt := 6) hx hb dX5_publish_72 (by decide) ?_
        refine ih (q + 1)  ls H locs (by omega)  hw (lv_sub hl [4, 2, 1, 0] (by rw [show lst kp t (q + 1) = _ from if_pos (by omega)]; rfl))
set_option maxHeartbeats 4000000 in
set_option maxRecDepth 100000 in
theorem m_publish (l : Launch) {D : va_G} {cI cJ cZ cD : ClassId} {ad : Nat → Nat} {w : Nat → va_E} {sz : Nat} (n t cl qu en kp : Nat) (dl ou cp ks pt : Nat → Nat) (co sh : Nat → Nat → Nat) (vs : Nat → Int64) (cd : Int32) (hok : OkS n t cl qu en kp dl ou cp ks pt co sh) (hRM : RM ad cJ cZ w cd n t cl qu en kp dl ou cp ks pt co sh vs) (hcl0 : cl = 1) (hge : t ≤ pcN kp) (hlt : en < 300)  : MW l yX5_publish (.code yX5_publish cX5_publish 5 (some .int)) ({ frames := 3, cells := 0, slots := 0, locals := 109 }) [.ref (ad 77)] D (tyL cI cJ cZ cD) ad 89 w sz (some (.int (nI (cmb (lst kp t 16).1 pt 16)))) (fun u => (∀ z, z < 77 ∨ 87 < z → u z = w z) ∧ RM ad cJ cZ u (nI 0) n t 1 qu (en + 1) 0 dl ou cp ks pt co sh (vp_updL vs (en + 1) (lN (cmb (lst kp t 16).1 pt 16)))) := by
  refine MW.of (by decide) (Nat.le_of_ble_eq_true rfl) ?_
  intro p e s m below meth c ls hC hr hlocks hl hw
  obtain ⟨hx, hb, hml, hown, hts⟩ := id hC
  have hA : ∀ q, s.heap.size ≤ q → xA ad 89 s.heap.size q := fun q h => Or.inr h
  have hl : lv_has ls 5 [(0, .ref (ad 77))] := hl
  obtain ⟨⟨hs, hM⟩, ⟨dz, oz, hDz, hOz, hdo⟩, ⟨cf, mf, sf, hCf, hMf, hSf, hcs⟩, ⟨xf, hXf, hxx⟩, ⟨kyf, swf, hKy, hSw, hks⟩, ⟨vlf, hVl, hvl⟩, ⟨plf, hPl, hpl⟩⟩ := id hRM
  obtain ⟨⟨hn, ht, hcl, hqu, hen, hkp⟩, hle, ⟨hqb, hkb, hcb⟩, hvals, hclv, hptl, ⟨hz1, hz2, hz3⟩⟩ := id hok
  subst hcl0
  refine lv_iconst (v := nI 0) hx hb dX5_publish_0 (by decide) ?_
  refine lv_istore_n (lv' := [(1, .int (nI 0)), (0, .ref (ad 77))]) hx hb dX5_publish_1 rfl hl (by decide) rfl (fun ls hl => ?_)
  refine lv_iconst (v := nI 0) hx hb dX5_publish_2 (by decide) ?_
  refine lv_istore_n (lv' := [(2, .int (nI 0)), (1, .int (nI 0)), (0, .ref (ad 77))]) hx hb dX5_publish_3 rfl hl (by decide) rfl (fun ls hl => ?_)
  refine lv_iconst (v := nI 1) hx hb dX5_publish_4 (by decide) ?_
  refine lv_istore_n (lv' := [(3, .int (nI 1)), (2, .int (nI 0)), (1, .int (nI 0)), (0, .ref (ad 77))]) hx hb dX5_publish_5 rfl hl (by decide) rfl (fun ls hl => ?_)
  refine k5_pub_loop hC hA cd n t _ qu en kp hs hn ht hkp hM (fun ls H locs hw hl => ?_) n 0 ls s.heap [] (by omega) hw (lv_sub hl [3, 2, 1, 0] rfl)
  have hlp := lst_pc (t := t) hn hkb
  obtain ⟨hb1, hb2, hb3⟩ := lst_lt kp t n hn
  refine lv_aload_n hx hb dX5_publish_75 rfl (lv_at hl 0 rfl) ?_
  refine lv_aload_n hx hb dX5_publish_76 rfl (lv_at hl 0 rfl) ?_
  refine gf_X5_71 hx hb hts hown hw (by decide) hM rfl dX5_publish_77 ?_
  refine lv_if_eq (tgt := 91) hx hb dX5_publish_80 (by decide) (fun q_1 => absurd q_1 (by decide)) (fun q_1 => ?_)
  refine lv_iload_n hx hb dX5_publish_83 rfl (lv_at hl 2 rfl) ?_
  refine lv_aload_n hx hb dX5_publish_84 rfl (lv_at hl 0 rfl) ?_
  refine gf_X5_68 hx hb hts hown hw (by decide) hM rfl dX5_publish_85 ?_
  refine lv_icmp_ge (tgt := 95) hx hb dX5_publish_88 (by decide) (fun q2 => ?_) (fun q2 => absurd (nI_le (by omega) (by omega)) q2)
  refine lv_aload_n hx hb dX5_publish_95 rfl (lv_at hl 0 rfl) ?_
  refine gf_X5_78 hx hb hts hown hw (by decide) hM rfl dX5_publish_96 ?_
  refine lv_sipush (v := nI 300) hx hb dX5_publish_99 (by decide) ?_
  refine lv_icmp_ne (tgt := 109) hx hb dX5_publish_102 (by decide) (fun q3 => ?_) (fun q3 => absurd q3 (fun q => by rw [nI_eq (by omega) (by omega)] at q; omega))
  refine lv_iconst (v := nI 0) hx hb dX5_publish_109 (by decide) ?_
  refine x_callW1 (As := [.int (nI 0)]) (rest := []) hC vf_X5_64 hw hA (by decide) hM rfl rfl (k5_refuses0 l _ _ _ _ _ _ _ _ hM) ⟨rfl, rfl, Nat.le_of_ble_eq_true rfl, Nat.le_of_ble_eq_true rfl⟩ hl.1 (Nat.le_of_ble_eq_true rfl) dX5_publish_110 ⟨Nat.zero_le _, Nat.zero_le _⟩ rfl (fun w_3 H locs hu_2 hw => ?_)
  have hc_4 : w_3 77 = .inr (4, [.int (nI 0), .int (nI n), .int (nI t), .int (nI 1), .ref (ad 78), .ref (ad 79), .ref (ad 80), .ref (ad 81), .ref (ad 82), .ref (ad 83), .int (nI qu), .ref (ad 84), .ref (ad 85), .ref (ad 86), .int (nI en), .int (nI kp), .ref (ad 87), .long hs]) := by rw [hu_2]; exact va_up_self _ _ _
  have hc_5 : w_3 78 = .inl (cZ, 17, .inl dz) := by rw [hu_2, va_up_ne _ _ (by decide)]; exact hDz
  have hc_6 : w_3 79 = .inl (cZ, 17, .inl oz) := by rw [hu_2, va_up_ne _ _ (by decide)]; exact hOz
  have hc_7 : w_3 80 = .inl (cJ, 289, .inr (.inl cf)) := by rw [hu_2, va_up_ne _ _ (by decide)]; exact hCf
  have hc_8 : w_3 81 = .inl (cJ, 289, .inr (.inl mf)) := by rw [hu_2, va_up_ne _ _ (by decide)]; exact hMf
  have hc_9 : w_3 82 = .inl (cJ, 289, .inr (.inl sf)) := by rw [hu_2, va_up_ne _ _ (by decide)]; exact hSf
  have hc_10 : w_3 83 = .inl (cZ, 289, .inl xf) := by rw [hu_2, va_up_ne _ _ (by decide)]; exact hXf
  have hc_11 : w_3 84 = .inl (cJ, 17, .inr (.inl kyf)) := by rw [hu_2, va_up_ne _ _ (by decide)]; exact hKy
  have hc_12 : w_3 85 = .inl (cJ, 17, .inr (.inl swf)) := by rw [hu_2, va_up_ne _ _ (by decide)]; exact hSw
  have hc_13 : w_3 86 = .inl (cJ, 301, .inr (.inl vlf)) := by rw [hu_2, va_up_ne _ _ (by decide)]; exact hVl
  have hc_14 : w_3 87 = .inl (cJ, 17, .inr (.inl plf)) := by rw [hu_2, va_up_ne _ _ (by decide)]; exact hPl
  refine lv_if_eq (tgt := 118) hx hb dX5_publish_113 (by decide) (fun q_15 => ?_) (fun q_15 => absurd (by decide) q_15)
  have hcm := cmb_lt (lst kp t 16).1 pt 16
  rw [lst16 hn hkb] at hl
  obtain ⟨hb4, hb5, hb6⟩ := lst_lt kp t 16 (Nat.le_refl _)
  refine lv_aload_n hx hb dX5_publish_118 rfl (lv_at hl 0 rfl) ?_
  refine lv_iload_n hx hb dX5_publish_119 rfl (lv_at hl 1 rfl) ?_
  refine x_callW1 (As := [.int (nI ((lst kp t 16).1))]) (rest := []) hC vf_X5_139 hw hA (by decide) hc_4 rfl rfl (k5_combined l _ _ _ _ _ _ _ _ plf hn (lst kp t 16).1 hb4 (fun k q => hkb k (lst_sub 16 k q).1) pt (fun k q => ⟨hpl k (lst_sub 16 k q).1, hptl k (lst_sub 16 k q).1⟩) hc_4 hc_14) ⟨rfl, rfl, Nat.le_of_ble_eq_true rfl, Nat.le_of_ble_eq_true rfl⟩ hl.1 (Nat.le_of_ble_eq_true rfl) dX5_publish_120 ⟨Nat.zero_le _, Nat.zero_le _⟩ rfl (fun w_16 H locs hu hw => ?_)
  rw [hu] at hw
  refine lv_lstore_n (lv' := [(3, .long (lN (cmb (lst kp t 16).1 pt 16))), (0, .ref (ad 77)), (1, .int (nI ((lst kp t 16).1))), (2, .int (nI ((lst kp t 16).2)))]) hx hb dX5_publish_123 rfl hl (by decide) rfl (fun ls hl => ?_)
  refine lv_aload_n hx hb dX5_publish_124 rfl (lv_at hl 1 rfl) ?_
  refine lv_dup hx hb dX5_publish_125 rfl ?_
  refine gf_X5_78 hx hb hts hown hw (by decide) hc_4 rfl dX5_publish_126 ?_
  refine lv_iconst (v := nI 1) hx hb dX5_publish_129 (by decide) ?_
  refine t_iadd hx hb dX5_publish_130 (v := nI (en + 1)) (nI_add _ _) ?_
  refine pf_X5_78 (v := .int (nI (en + 1))) hx hb hts hown hw (by decide) hc_4 rfl rfl (Nat.le_of_ble_eq_true rfl) dX5_publish_131 (fun w_17 H locs ew_18 hw => ?_)
  have hc_19 : w_17 77 = .inr (4, [.int (nI 0), .int (nI n), .int (nI t), .int (nI 1), .ref (ad 78), .ref (ad 79), .ref (ad 80), .ref (ad 81), .ref (ad 82), .ref (ad 83), .int (nI qu), .ref (ad 84), .ref (ad 85), .ref (ad 86), .int (nI (en + 1)), .int (nI kp), .ref (ad 87), .long hs]) := by rw [ew_18]; exact va_up_self _ _ _
  have hc_20 : w_17 78 = .inl (cZ, 17, .inl dz) := by rw [ew_18]; exact (va_up_ne _ _ (by omega)).trans hc_5
  have hc_21 : w_17 79 = .inl (cZ, 17, .inl oz) := by rw [ew_18]; exact (va_up_ne _ _ (by omega)).trans hc_6
  have hc_22 : w_17 80 = .inl (cJ, 289, .inr (.inl cf)) := by rw [ew_18]; exact (va_up_ne _ _ (by omega)).trans hc_7
  have hc_23 : w_17 81 = .inl (cJ, 289, .inr (.inl mf)) := by rw [ew_18]; exact (va_up_ne _ _ (by omega)).trans hc_8
  have hc_24 : w_17 82 = .inl (cJ, 289, .inr (.inl sf)) := by rw [ew_18]; exact (va_up_ne _ _ (by omega)).trans hc_9
  have hc_25 : w_17 83 = .inl (cZ, 289, .inl xf) := by rw [ew_18]; exact (va_up_ne _ _ (by omega)).trans hc_10
  have hc_26 : w_17 84 = .inl (cJ, 17, .inr (.inl kyf)) := by rw [ew_18]; exact (va_up_ne _ _ (by omega)).trans hc_11
  have hc_27 : w_17 85 = .inl (cJ, 17, .inr (.inl swf)) := by rw [ew_18]; exact (va_up_ne _ _ (by omega)).trans hc_12
  have hc_28 : w_17 86 = .inl (cJ, 301, .inr (.inl vlf)) := by rw [ew_18]; exact (va_up_ne _ _ (by omega)).trans hc_13
  have hc_29 : w_17 87 = .inl (cJ, 17, .inr (.inl plf)) := by rw [ew_18]; exact (va_up_ne _ _ (by omega)).trans hc_14
  refine lv_aload_n hx hb dX5_publish_134 rfl (lv_at hl 1 rfl) ?_
  refine gf_X5_35 hx hb hts hown hw (by decide) hc_19 rfl dX5_publish_135 ?_
  refine lv_aload_n hx hb dX5_publish_138 rfl (lv_at hl 1 rfl) ?_
  refine gf_X5_78 hx hb hts hown hw (by decide) hc_19 rfl dX5_publish_139 ?_
  refine lv_lload_n hx hb dX5_publish_142 rfl (lv_at hl 0 rfl) ?_
  refine x_last hx hb hw (by decide) 1 hc_28 rfl (j := en + 1) (by omega) (by decide) dX5_publish_143 (fun w_30 H locs ew_31 hw => ?_)
  have hc_32 : w_30 77 = .inr (4, [.int (nI 0), .int (nI n), .int (nI t), .int (nI 1), .ref (ad 78), .ref (ad 79), .ref (ad 80), .ref (ad 81), .ref (ad 82), .ref (ad 83), .int (nI qu), .ref (ad 84), .ref (ad 85), .ref (ad 86), .int (nI (en + 1)), .int (nI kp), .ref (ad 87), .long hs]) := by rw [ew_31]; exact (va_up_ne _ _ (by omega)).trans hc_19
  have hc_33 : w_30 78 = .inl (cZ, 17, .inl dz) := by rw [ew_31]; exact (va_up_ne _ _ (by omega)).trans hc_20
  have hc_34 : w_30 79 = .inl (cZ, 17, .inl oz) := by rw [ew_31]; exact (va_up_ne _ _ (by omega)).trans hc_21
  have hc_35 : w_30 80 = .inl (cJ, 289, .inr (.inl cf)) := by rw [ew_31]; exact (va_up_ne _ _ (by omega)).trans hc_22
  have hc_36 : w_30 81 = .inl (cJ, 289, .inr (.inl mf)) := by rw [ew_31]; exact (va_up_ne _ _ (by omega)).trans hc_23
  have hc_37 : w_30 82 = .inl (cJ, 289, .inr (.inl sf)) := by rw [ew_31]; exact (va_up_ne _ _ (by omega)).trans hc_24
  have hc_38 : w_30 83 = .inl (cZ, 289, .inl xf) := by rw [ew_31]; exact (va_up_ne _ _ (by omega)).trans hc_25
  have hc_39 : w_30 84 = .inl (cJ, 17, .inr (.inl kyf)) := by rw [ew_31]; exact (va_up_ne _ _ (by omega)).trans hc_26
  have hc_40 : w_30 85 = .inl (cJ, 17, .inr (.inl swf)) := by rw [ew_31]; exact (va_up_ne _ _ (by omega)).trans hc_27
  have hc_41 : w_30 86 = .inl (cJ, 301, .inr (.inl (vp_updL vlf (en + 1) (lN (cmb (lst kp t 16).1 pt 16))))) := by rw [ew_31]; exact va_up_self _ _ _
  have hc_42 : w_30 87 = .inl (cJ, 17, .inr (.inl plf)) := by rw [ew_31]; exact (va_up_ne _ _ (by omega)).trans hc_29
  refine lv_aload_n hx hb dX5_publish_144 rfl (lv_at hl 1 rfl) ?_
  refine lv_iconst (v := nI 0) hx hb dX5_publish_145 (by decide) ?_
  refine pf_X5_81 (v := .int (nI 0)) hx hb hts hown hw (by decide) hc_32 rfl rfl (Nat.le_of_ble_eq_true rfl) dX5_publish_146 (fun w_43 H locs ew_44 hw => ?_)
  have hc_45 : w_43 77 = .inr (4, [.int (nI 0), .int (nI n), .int (nI t), .int (nI 1), .ref (ad 78), .ref (ad 79), .ref (ad 80), .ref (ad 81), .ref (ad 82), .ref (ad 83), .int (nI qu), .ref (ad 84), .ref (ad 85), .ref (ad 86), .int (nI (en + 1)), .int (nI 0), .ref (ad 87), .long hs]) := by rw [ew_44]; exact va_up_self _ _ _
  have hc_46 : w_43 78 = .inl (cZ, 17, .inl dz) := by rw [ew_44]; exact (va_up_ne _ _ (by omega)).trans hc_33
  have hc_47 : w_43 79 = .inl (cZ, 17, .inl oz) := by rw [ew_44]; exact (va_up_ne _ _ (by omega)).trans hc_34
  have hc_48 : w_43 80 = .inl (cJ, 289, .inr (.inl cf)) := by rw [ew_44]; exact (va_up_ne _ _ (by omega)).trans hc_35
  have hc_49 : w_43 81 = .inl (cJ, 289, .inr (.inl mf)) := by rw [ew_44]; exact (va_up_ne _ _ (by omega)).trans hc_36
  have hc_50 : w_43 82 = .inl (cJ, 289, .inr (.inl sf)) := by rw [ew_44]; exact (va_up_ne _ _ (by omega)).trans hc_37
  have hc_51 : w_43 83 = .inl (cZ, 289, .inl xf) := by rw [ew_44]; exact (va_up_ne _ _ (by omega)).trans hc_38
  have hc_52 : w_43 84 = .inl (cJ, 17, .inr (.inl kyf)) := by rw [ew_44]; exact (va_up_ne _ _ (by omega)).trans hc_39
  have hc_53 : w_43 85 = .inl (cJ, 17, .inr (.inl swf)) := by rw [ew_44]; exact (va_up_ne _ _ (by omega)).trans hc_40
  have hc_54 : w_43 86 = .inl (cJ, 301, .inr (.inl (vp_updL vlf (en + 1) (lN (cmb (lst kp t 16).1 pt 16))))) := by rw [ew_44]; exact (va_up_ne _ _ (by omega)).trans hc_41
  have hc_55 : w_43 87 = .inl (cJ, 17, .inr (.inl plf)) := by rw [ew_44]; exact (va_up_ne _ _ (by omega)).trans hc_42
  refine lv_lload_n hx hb dX5_publish_149 rfl (lv_at hl 0 rfl) ?_
  refine lv_l2i hx hb dX5_publish_150 (lN_i _) ?_
  have hfr : ∀ z, z ≠ 77 → z ≠ 86 → w_43 z = w z := fun z hhfr0 hhfr1 => by rw [ew_44, va_up_ne _ _ hhfr0, ew_31, va_up_ne _ _ hhfr1, ew_18, va_up_ne _ _ hhfr0, hu_2, va_up_ne _ _ hhfr0]
  refine x_wretI hx hb hr hlocks hw ⟨fun z hz => hfr z (by omega) (by omega), ⟨_, hc_45⟩, RMd.of ⟨dz, oz, hDz, hOz, hdo⟩ (hfr 78 (by decide) (by decide)) (hfr 79 (by decide) (by decide)), RMc.of ⟨cf, mf, sf, hCf, hMf, hSf, hcs⟩ (hfr 80 (by decide) (by decide)) (hfr 81 (by decide) (by decide)) (hfr 82 (by decide) (by decide)), RMx.of ⟨xf, hXf, hxx⟩ (hfr 83 (by decide) (by decide)), RMk.of ⟨kyf, swf, hKy, hSw, hks⟩ (hfr 84 (by decide) (by decide)) (hfr 85 (by decide) (by decide)), ⟨_, hc_54, fun _ j hj => ?_⟩, ⟨plf, (hfr 87 (by decide) (by decide)).trans hPl, fun k q => absurd q (by rw [tb_zero]; decide)⟩⟩ dX5_publish_151
  by_cases hje : j = en + 1
  · subst hje; rw [pk_uLs, pk_uLs]
  · rw [pk_uLn hje, pk_uLn hje]; exact hvl rfl j (by omega)
set_option maxHeartbeats 4000000 in
set_option maxRecDepth 100000 in
theorem m_publishS1 (l : Launch) {D : va_G} {cI cJ cZ cD : ClassId} {ad : Nat → Nat} {w : Nat → va_E} {sz : Nat} (n t cl qu en kp : Nat) (dl ou cp ks pt : Nat → Nat) (co sh : Nat → Nat → Nat) (vs : Nat → Int64) (cd : Int32) (hok : OkS n t cl qu en kp dl ou cp ks pt co sh) (hRM : RM ad cJ cZ w cd n t cl qu en kp dl ou cp ks pt co sh vs) (hcl0 : cl = 0)  : MW l yX5_publish (.code yX5_publish cX5_publish 5 (some .int)) ({ frames := 3, cells := 0, slots := 0, locals := 109 }) [.ref (ad 77)] D (tyL cI cJ cZ cD) ad 89 w sz (some (.int (nI 0))) (fun u => (∀ z, z < 77 ∨ 87 < z → u z = w z) ∧ RM ad cJ cZ u (nI 1) n t 0 qu en kp dl ou cp ks pt co sh vs) := by
  refine MW.of (by decide) (Nat.le_of_ble_eq_true rfl) ?_
  intro p e s m below meth c ls hC hr hlocks hl hw
  obtain ⟨hx, hb, hml, hown, hts⟩ := id hC
  have hA : ∀ q, s.heap.size ≤ q → xA ad 89 s.heap.size q := fun q h => Or.inr h
  have hl : lv_has ls 5 [(0, .ref (ad 77))] := hl
  obtain ⟨⟨hs, hM⟩, ⟨dz, oz, hDz, hOz, hdo⟩, ⟨cf, mf, sf, hCf, hMf, hSf, hcs⟩, ⟨xf, hXf, hxx⟩, ⟨kyf, swf, hKy, hSw, hks⟩, ⟨vlf, hVl, hvl⟩, ⟨plf, hPl, hpl⟩⟩ := id hRM
  obtain ⟨⟨hn, ht, hcl, hqu, hen, hkp⟩, hle, ⟨hqb, hkb, hcb⟩, hvals, hclv, hptl, ⟨hz1, hz2, hz3⟩⟩ := id hok
  subst hcl0
  refine lv_iconst (v := nI 0) hx hb dX5_publish_0 (by decide) ?_
  refine lv_istore_n (lv' := [(1, .int (nI 0)), (0, .ref (ad 77))]) hx hb dX5_publish_1 rfl hl (by decide) rfl (fun ls hl => ?_)
  refine lv_iconst (v := nI 0) hx hb dX5_publish_2 (by decide) ?_
  refine lv_istore_n (lv' := [(2, .int (nI 0)), (1, .int (nI 0)), (0, .ref (ad 77))]) hx hb dX5_publish_3 rfl hl (by decide) rfl (fun ls hl => ?_)
  refine lv_iconst (v := nI 1) hx hb dX5_publish_4 (by decide) ?_
  refine lv_istore_n (lv' := [(3, .int (nI 1)), (2, .int (nI 0)), (1, .int (nI 0)), (0, .ref (ad 77))]) hx hb dX5_publish_5 rfl hl (by decide) rfl (fun ls hl => ?_)
  refine k5_pub_loop hC hA cd n t _ qu en kp hs hn ht hkp hM (fun ls H locs hw hl => ?_) n 0 ls s.heap [] (by omega) hw (lv_sub hl [3, 2, 1, 0] rfl)
  have hlp := lst_pc (t := t) hn hkb
  obtain ⟨hb1, hb2, hb3⟩ := lst_lt kp t n hn
  refine lv_aload_n hx hb dX5_publish_75 rfl (lv_at hl 0 rfl) ?_
  refine lv_aload_n hx hb dX5_publish_76 rfl (lv_at hl 0 rfl) ?_
  refine gf_X5_71 hx hb hts hown hw (by decide) hM rfl dX5_publish_77 ?_
  refine lv_if_eq (tgt := 91) hx hb dX5_publish_80 (by decide) (fun q_1 => ?_) (fun q_1 => absurd (by decide) q_1)
  refine lv_iconst (v := nI 1) hx hb dX5_publish_91 (by decide) ?_
  refine lv_goto (tgt := 110) hx hb dX5_publish_92 (by decide) ?_
  refine x_callW1 (As := [.int (nI 1)]) (rest := []) hC vf_X5_64 hw hA (by decide) hM rfl rfl (k5_refuses1 l _ _ _ _ _ _ _ _ hM) ⟨rfl, rfl, Nat.le_of_ble_eq_true rfl, Nat.le_of_ble_eq_true rfl⟩ hl.1 (Nat.le_of_ble_eq_true rfl) dX5_publish_110 ⟨Nat.zero_le _, Nat.zero_le _⟩ rfl (fun w_3 H locs hu_2 hw => ?_)
  have hc_4 : w_3 77 = .inr (4, [.int (nI 1), .int (nI n), .int (nI t), .int (nI 0), .ref (ad 78), .ref (ad 79), .ref (ad 80), .ref (ad 81), .ref (ad 82), .ref (ad 83), .int (nI qu), .ref (ad 84), .ref (ad 85), .ref (ad 86), .int (nI en), .int (nI kp), .ref (ad 87), .long hs]) := by rw [hu_2]; exact va_up_self _ _ _
  have hc_5 : w_3 78 = .inl (cZ, 17, .inl dz) := by rw [hu_2, va_up_ne _ _ (by decide)]; exact hDz
  have hc_6 : w_3 79 = .inl (cZ, 17, .inl oz) := by rw [hu_2, va_up_ne _ _ (by decide)]; exact hOz
  have hc_7 : w_3 80 = .inl (cJ, 289, .inr (.inl cf)) := by rw [hu_2, va_up_ne _ _ (by decide)]; exact hCf
  have hc_8 : w_3 81 = .inl (cJ, 289, .inr (.inl mf)) := by rw [hu_2, va_up_ne _ _ (by decide)]; exact hMf
  have hc_9 : w_3 82 = .inl (cJ, 289, .inr (.inl sf)) := by rw [hu_2, va_up_ne _ _ (by decide)]; exact hSf
  have hc_10 : w_3 83 = .inl (cZ, 289, .inl xf) := by rw [hu_2, va_up_ne _ _ (by decide)]; exact hXf
  have hc_11 : w_3 84 = .inl (cJ, 17, .inr (.inl kyf)) := by rw [hu_2, va_up_ne _ _ (by decide)]; exact hKy
  have hc_12 : w_3 85 = .inl (cJ, 17, .inr (.inl swf)) := by rw [hu_2, va_up_ne _ _ (by decide)]; exact hSw
  have hc_13 : w_3 86 = .inl (cJ, 301, .inr (.inl vlf)) := by rw [hu_2, va_up_ne _ _ (by decide)]; exact hVl
  have hc_14 : w_3 87 = .inl (cJ, 17, .inr (.inl plf)) := by rw [hu_2, va_up_ne _ _ (by decide)]; exact hPl
  refine lv_if_eq (tgt := 118) hx hb dX5_publish_113 (by decide) (fun q_15 => absurd q_15 (by decide)) (fun q_15 => ?_)
  refine lv_iconst (v := nI 0) hx hb dX5_publish_116 (by decide) ?_
  have hfr : ∀ z, z ≠ 77 → w_3 z = w z := fun z hhfr0 => by rw [hu_2, va_up_ne _ _ hhfr0]
  exact x_wretI hx hb hr hlocks hw ⟨fun z hz => hfr z (by omega), RM.set77 hRM hfr hc_4⟩ dX5_publish_117
set_option maxHeartbeats 4000000 in
set_option maxRecDepth 100000 in
theorem m_publishS2 (l : Launch) {D : va_G} {cI cJ cZ cD : ClassId} {ad : Nat → Nat} {w : Nat → va_E} {sz : Nat} (n t cl qu en kp : Nat) (dl ou cp ks pt : Nat → Nat) (co sh : Nat → Nat → Nat) (vs : Nat → Int64) (cd : Int32) (hok : OkS n t cl qu en kp dl ou cp ks pt co sh) (hRM : RM ad cJ cZ w cd n t cl qu en kp dl ou cp ks pt co sh vs) (hcl0 : cl = 1) (hge : pcN kp < t)  : MW l yX5_publish (.code yX5_publish cX5_publish 5 (some .int)) ({ frames := 3, cells := 0, slots := 0, locals := 109 }) [.ref (ad 77)] D (tyL cI cJ cZ cD) ad 89 w sz (some (.int (nI 0))) (fun u => (∀ z, z < 77 ∨ 87 < z → u z = w z) ∧ RM ad cJ cZ u (nI 1) n t 1 qu en kp dl ou cp ks pt co sh vs) := by
  refine MW.of (by decide) (Nat.le_of_ble_eq_true rfl) ?_
  intro p e s m below meth c ls hC hr hlocks hl hw
  obtain ⟨hx, hb, hml, hown, hts⟩ := id hC
  have hA : ∀ q, s.heap.size ≤ q → xA ad 89 s.heap.size q := fun q h => Or.inr h
  have hl : lv_has ls 5 [(0, .ref (ad 77))] := hl
  obtain ⟨⟨hs, hM⟩, ⟨dz, oz, hDz, hOz, hdo⟩, ⟨cf, mf, sf, hCf, hMf, hSf, hcs⟩, ⟨xf, hXf, hxx⟩, ⟨kyf, swf, hKy, hSw, hks⟩, ⟨vlf, hVl, hvl⟩, ⟨plf, hPl, hpl⟩⟩ := id hRM
  obtain ⟨⟨hn, ht, hcl, hqu, hen, hkp⟩, hle, ⟨hqb, hkb, hcb⟩, hvals, hclv, hptl, ⟨hz1, hz2, hz3⟩⟩ := id hok
  subst hcl0
  refine lv_iconst (v := nI 0) hx hb dX5_publish_0 (by decide) ?_
  refine lv_istore_n (lv' := [(1, .int (nI 0)), (0, .ref (ad 77))]) hx hb dX5_publish_1 rfl hl (by decide) rfl (fun ls hl => ?_)
  refine lv_iconst (v := nI 0) hx hb dX5_publish_2 (by decide) ?_
  refine lv_istore_n (lv' := [(2, .int (nI 0)), (1, .int (nI 0)), (0, .ref (ad 77))]) hx hb dX5_publish_3 rfl hl (by decide) rfl (fun ls hl => ?_)
  refine lv_iconst (v := nI 1) hx hb dX5_publish_4 (by decide) ?_
  refine lv_istore_n (lv' := [(3, .int (nI 1)), (2, .int (nI 0)), (1, .int (nI 0)), (0, .ref (ad 77))]) hx hb dX5_publish_5 rfl hl (by decide) rfl (fun ls hl => ?_)
  refine k5_pub_loop hC hA cd n t _ qu en kp hs hn ht hkp hM (fun ls H locs hw hl => ?_) n 0 ls s.heap [] (by omega) hw (lv_sub hl [3, 2, 1, 0] rfl)
  have hlp := lst_pc (t := t) hn hkb
  obtain ⟨hb1, hb2, hb3⟩ := lst_lt kp t n hn
  refine lv_aload_n hx hb dX5_publish_75 rfl (lv_at hl 0 rfl) ?_
  refine lv_aload_n hx hb dX5_publish_76 rfl (lv_at hl 0 rfl) ?_
  refine gf_X5_71 hx hb hts hown hw (by decide) hM rfl dX5_publish_77 ?_
  refine lv_if_eq (tgt := 91) hx hb dX5_publish_80 (by decide) (fun q_1 => absurd q_1 (by decide)) (fun q_1 => ?_)
  refine lv_iload_n hx hb dX5_publish_83 rfl (lv_at hl 2 rfl) ?_
  refine lv_aload_n hx hb dX5_publish_84 rfl (lv_at hl 0 rfl) ?_
  refine gf_X5_68 hx hb hts hown hw (by decide) hM rfl dX5_publish_85 ?_
  refine lv_icmp_ge (tgt := 95) hx hb dX5_publish_88 (by decide) (fun q2 => absurd q2 (fun q => by rw [nI_leI (by omega) (by omega)] at q; omega)) (fun q2 => ?_)
  refine lv_iconst (v := nI 1) hx hb dX5_publish_91 (by decide) ?_
  refine lv_goto (tgt := 110) hx hb dX5_publish_92 (by decide) ?_
  refine x_callW1 (As := [.int (nI 1)]) (rest := []) hC vf_X5_64 hw hA (by decide) hM rfl rfl (k5_refuses1 l _ _ _ _ _ _ _ _ hM) ⟨rfl, rfl, Nat.le_of_ble_eq_true rfl, Nat.le_of_ble_eq_true rfl⟩ hl.1 (Nat.le_of_ble_eq_true rfl) dX5_publish_110 ⟨Nat.zero_le _, Nat.zero_le _⟩ rfl (fun w_3 H locs hu_2 hw => ?_)
  have hc_4 : w_3 77 = .inr (4, [.int (nI 1), .int (nI n), .int (nI t), .int (nI 1), .ref (ad 78), .ref (ad 79), .ref (ad 80), .ref (ad 81), .ref (ad 82), .ref (ad 83), .int (nI qu), .ref (ad 84), .ref (ad 85), .ref (ad 86), .int (nI en), .int (nI kp), .ref (ad 87), .long hs]) := by rw [hu_2]; exact va_up_self _ _ _
  have hc_5 : w_3 78 = .inl (cZ, 17, .inl dz) := by rw [hu_2, va_up_ne _ _ (by decide)]; exact hDz
  have hc_6 : w_3 79 = .inl (cZ, 17, .inl oz) := by rw [hu_2, va_up_ne _ _ (by decide)]; exact hOz
  have hc_7 : w_3 80 = .inl (cJ, 289, .inr (.inl cf)) := by rw [hu_2, va_up_ne _ _ (by decide)]; exact hCf
  have hc_8 : w_3 81 = .inl (cJ, 289, .inr (.inl mf)) := by rw [hu_2, va_up_ne _ _ (by decide)]; exact hMf
  have hc_9 : w_3 82 = .inl (cJ, 289, .inr (.inl sf)) := by rw [hu_2, va_up_ne _ _ (by decide)]; exact hSf
  have hc_10 : w_3 83 = .inl (cZ, 289, .inl xf) := by rw [hu_2, va_up_ne _ _ (by decide)]; exact hXf
  have hc_11 : w_3 84 = .inl (cJ, 17, .inr (.inl kyf)) := by rw [hu_2, va_up_ne _ _ (by decide)]; exact hKy
  have hc_12 : w_3 85 = .inl (cJ, 17, .inr (.inl swf)) := by rw [hu_2, va_up_ne _ _ (by decide)]; exact hSw
  have hc_13 : w_3 86 = .inl (cJ, 301, .inr (.inl vlf)) := by rw [hu_2, va_up_ne _ _ (by decide)]; exact hVl
  have hc_14 : w_3 87 = .inl (cJ, 17, .inr (.inl plf)) := by rw [hu_2, va_up_ne _ _ (by decide)]; exact hPl
  refine lv_if_eq (tgt := 118) hx hb dX5_publish_113 (by decide) (fun q_15 => absurd q_15 (by decide)) (fun q_15 => ?_)
  refine lv_iconst (v := nI 0) hx hb dX5_publish_116 (by decide) ?_
  have hfr : ∀ z, z ≠ 77 → w_3 z = w z := fun z hhfr0 => by rw [hu_2, va_up_ne _ _ hhfr0]
  exact x_wretI hx hb hr hlocks hw ⟨fun z hz => hfr z (by omega), RM.set77 hRM hfr hc_4⟩ dX5_publish_117
set_option maxHeartbeats 4000000 in
set_option maxRecDepth 100000 in
theorem m_publishU (l : Launch) {D : va_G} {cI cJ cZ cD : ClassId} {ad : Nat → Nat} {w : Nat → va_E} {sz : Nat} (n t cl qu en kp : Nat) (dl ou cp ks pt : Nat → Nat) (co sh : Nat → Nat → Nat) (vs : Nat → Int64) (cd : Int32) (hok : OkS n t cl qu en kp dl ou cp ks pt co sh) (hRM : RM ad cJ cZ w cd n t cl qu en kp dl ou cp ks pt co sh vs) (hcl0 : cl = 1) (hge : t ≤ pcN kp) (hlt : en = 300)  : MW l yX5_publish (.code yX5_publish cX5_publish 5 (some .int)) ({ frames := 3, cells := 0, slots := 0, locals := 109 }) [.ref (ad 77)] D (tyL cI cJ cZ cD) ad 89 w sz (some (.int (nI 0))) (fun u => (∀ z, z < 77 ∨ 87 < z → u z = w z) ∧ RM ad cJ cZ u (nI 2) n t 1 qu en kp dl ou cp ks pt co sh vs) := by
  refine MW.of (by decide) (Nat.le_of_ble_eq_true rfl) ?_
  intro p e s m below meth c ls hC hr hlocks hl hw
  obtain ⟨hx, hb, hml, hown, hts⟩ := id hC
  have hA : ∀ q, s.heap.size ≤ q → xA ad 89 s.heap.size q := fun q h => Or.inr h
  have hl : lv_has ls 5 [(0, .ref (ad 77))] := hl
  obtain ⟨⟨hs, hM⟩, ⟨dz, oz, hDz, hOz, hdo⟩, ⟨cf, mf, sf, hCf, hMf, hSf, hcs⟩, ⟨xf, hXf, hxx⟩, ⟨kyf, swf, hKy, hSw, hks⟩, ⟨vlf, hVl, hvl⟩, ⟨plf, hPl, hpl⟩⟩ := id hRM
  obtain ⟨⟨hn, ht, hcl, hqu, hen, hkp⟩, hle, ⟨hqb, hkb, hcb⟩, hvals, hclv, hptl, ⟨hz1, hz2, hz3⟩⟩ := id hok
  subst hcl0
  refine lv_iconst (v := nI 0) hx hb dX5_publish_0 (by decide) ?_
  refine lv_istore_n (lv' := [(1, .int (nI 0)), (0, .ref (ad 77))]) hx hb dX5_publish_1 rfl hl (by decide) rfl (fun ls hl => ?_)
  refine lv_iconst (v := nI 0) hx hb dX5_publish_2 (by decide) ?_
  refine lv_istore_n (lv' := [(2, .int (nI 0)), (1, .int (nI 0)), (0, .ref (ad 77))]) hx hb dX5_publish_3 rfl hl (by decide) rfl (fun ls hl => ?_)
  refine lv_iconst (v := nI 1) hx hb dX5_publish_4 (by decide) ?_
  refine lv_istore_n (lv' := [(3, .int (nI 1)), (2, .int (nI 0)), (1, .int (nI 0)), (0, .ref (ad 77))]) hx hb dX5_publish_5 rfl hl (by decide) rfl (fun ls hl => ?_)
  refine k5_pub_loop hC hA cd n t _ qu en kp hs hn ht hkp hM (fun ls H locs hw hl => ?_) n 0 ls s.heap [] (by omega) hw (lv_sub hl [3, 2, 1, 0] rfl)
  have hlp := lst_pc (t := t) hn hkb
  obtain ⟨hb1, hb2, hb3⟩ := lst_lt kp t n hn
  refine lv_aload_n hx hb dX5_publish_75 rfl (lv_at hl 0 rfl) ?_
  refine lv_aload_n hx hb dX5_publish_76 rfl (lv_at hl 0 rfl) ?_
  refine gf_X5_71 hx hb hts hown hw (by decide) hM rfl dX5_publish_77 ?_
  refine lv_if_eq (tgt := 91) hx hb dX5_publish_80 (by decide) (fun q_1 => absurd q_1 (by decide)) (fun q_1 => ?_)
  refine lv_iload_n hx hb dX5_publish_83 rfl (lv_at hl 2 rfl) ?_
  refine lv_aload_n hx hb dX5_publish_84 rfl (lv_at hl 0 rfl) ?_
  refine gf_X5_68 hx hb hts hown hw (by decide) hM rfl dX5_publish_85 ?_
  refine lv_icmp_ge (tgt := 95) hx hb dX5_publish_88 (by decide) (fun q2 => ?_) (fun q2 => absurd (nI_le (by omega) (by omega)) q2)
  refine lv_aload_n hx hb dX5_publish_95 rfl (lv_at hl 0 rfl) ?_
  refine gf_X5_78 hx hb hts hown hw (by decide) hM rfl dX5_publish_96 ?_
  refine lv_sipush (v := nI 300) hx hb dX5_publish_99 (by decide) ?_
  refine lv_icmp_ne (tgt := 109) hx hb dX5_publish_102 (by decide) (fun q3 => absurd ((nI_eq (by omega) (by omega)).mpr hlt) q3) (fun q3 => ?_)
  refine lv_iconst (v := nI 2) hx hb dX5_publish_105 (by decide) ?_
  refine lv_goto (tgt := 110) hx hb dX5_publish_106 (by decide) ?_
  refine x_callW1 (As := [.int (nI 2)]) (rest := []) hC vf_X5_64 hw hA (by decide) hM rfl rfl (k5_refuses2 l _ _ _ _ _ _ _ _ hM) ⟨rfl, rfl, Nat.le_of_ble_eq_true rfl, Nat.le_of_ble_eq_true rfl⟩ hl.1 (Nat.le_of_ble_eq_true rfl) dX5_publish_110 ⟨Nat.zero_le _, Nat.zero_le _⟩ rfl (fun w_3 H locs hu_2 hw => ?_)
  have hc_4 : w_3 77 = .inr (4, [.int (nI 2), .int (nI n), .int (nI t), .int (nI 1), .ref (ad 78), .ref (ad 79), .ref (ad 80), .ref (ad 81), .ref (ad 82), .ref (ad 83), .int (nI qu), .ref (ad 84), .ref (ad 85), .ref (ad 86), .int (nI en), .int (nI kp), .ref (ad 87), .long hs]) := by rw [hu_2]; exact va_up_self _ _ _
  have hc_5 : w_3 78 = .inl (cZ, 17, .inl dz) := by rw [hu_2, va_up_ne _ _ (by decide)]; exact hDz
  have hc_6 : w_3 79 = .inl (cZ, 17, .inl oz) := by rw [hu_2, va_up_ne _ _ (by decide)]; exact hOz
  have hc_7 : w_3 80 = .inl (cJ, 289, .inr (.inl cf)) := by rw [hu_2, va_up_ne _ _ (by decide)]; exact hCf
  have hc_8 : w_3 81 = .inl (cJ, 289, .inr (.inl mf)) := by rw [hu_2, va_up_ne _ _ (by decide)]; exact hMf
  have hc_9 : w_3 82 = .inl (cJ, 289, .inr (.inl sf)) := by rw [hu_2, va_up_ne _ _ (by decide)]; exact hSf
  have hc_10 : w_3 83 = .inl (cZ, 289, .inl xf) := by rw [hu_2, va_up_ne _ _ (by decide)]; exact hXf
  have hc_11 : w_3 84 = .inl (cJ, 17, .inr (.inl kyf)) := by rw [hu_2, va_up_ne _ _ (by decide)]; exact hKy
  have hc_12 : w_3 85 = .inl (cJ, 17, .inr (.inl swf)) := by rw [hu_2, va_up_ne _ _ (by decide)]; exact hSw
  have hc_13 : w_3 86 = .inl (cJ, 301, .inr (.inl vlf)) := by rw [hu_2, va_up_ne _ _ (by decide)]; exact hVl
  have hc_14 : w_3 87 = .inl (cJ, 17, .inr (.inl plf)) := by rw [hu_2, va_up_ne _ _ (by decide)]; exact hPl
  refine lv_if_eq (tgt := 118) hx hb dX5_publish_113 (by decide) (fun q_15 => absurd q_15 (by decide)) (fun q_15 => ?_)
  refine lv_iconst (v := nI 0) hx hb dX5_publish_116 (by decide) ?_
  have hfr : ∀ z, z ≠ 77 → w_3 z = w z := fun z hhfr0 => by rw [hu_2, va_up_ne _ _ hhfr0]
  exact x_wretI hx hb hr hlocks hw ⟨fun z hz => hfr z (by omega), RM.set77 hRM hfr hc_4⟩ dX5_publish_117
set_option maxHeartbeats 4000000 in
set_option maxRecDepth 100000 in
theorem m_ended (l : Launch) {D : va_G} {cI cJ cZ cD : ClassId} {ad : Nat → Nat} {w : Nat → va_E} {sz : Nat} (n t cl qu en kp : Nat) (dl ou cp ks pt : Nat → Nat) (co sh : Nat → Nat → Nat) (vs : Nat → Int64) (cd : Int32) (hok : OkS n t cl qu en kp dl ou cp ks pt co sh) (hRM : RM ad cJ cZ w cd n t cl qu en kp dl ou cp ks pt co sh vs) (r : Nat) (hr0 : r ≤ en) (hcl0 : cl = 1)  : MW l yX5_ended (.code yX5_ended cX5_ended 3 (some .long)) ({ frames := 1, cells := 0, slots := 0, locals := 30 }) [.ref (ad 77), .int (nI r)] D (tyL cI cJ cZ cD) ad 89 w sz (some (.long (vs r))) (fun u => (∀ z, z < 77 ∨ 87 < z → u z = w z) ∧ RM ad cJ cZ u (nI 0) n t 1 qu en kp dl ou cp ks pt co sh vs) := by
  refine MW.of (by decide) (Nat.le_of_ble_eq_true rfl) ?_
  intro p e s m below meth c ls hC hr hlocks hl hw
  obtain ⟨hx, hb, hml, hown, hts⟩ := id hC
  have hA : ∀ q, s.heap.size ≤ q → xA ad 89 s.heap.size q := fun q h => Or.inr h
  have hl : lv_has ls 3 [(0, .ref (ad 77)), (1, .int (nI r))] := hl
  obtain ⟨⟨hs, hM⟩, ⟨dz, oz, hDz, hOz, hdo⟩, ⟨cf, mf, sf, hCf, hMf, hSf, hcs⟩, ⟨xf, hXf, hxx⟩, ⟨kyf, swf, hKy, hSw, hks⟩, ⟨vlf, hVl, hvl⟩, ⟨plf, hPl, hpl⟩⟩ := id hRM
  obtain ⟨⟨hn, ht, hcl, hqu, hen, hkp⟩, hle, ⟨hqb, hkb, hcb⟩, hvals, hclv, hptl, ⟨hz1, hz2, hz3⟩⟩ := id hok
  subst hcl0
  refine lv_iload_n hx hb dX5_ended_0 rfl (lv_at hl 1 rfl) ?_
  refine lv_if_lt (tgt := 23) hx hb dX5_ended_1 (by decide) (fun q1 => absurd q1 (nI_pos (by omega))) (fun q1 => ?_)
  refine lv_aload_n hx hb dX5_ended_4 rfl (lv_at hl 0 rfl) ?_
  refine gf_X5_71 hx hb hts hown hw (by decide) hM rfl dX5_ended_5 ?_
  refine lv_if_eq (tgt := 19) hx hb dX5_ended_8 (by decide) (fun q_1 => absurd q_1 (by decide)) (fun q_1 => ?_)
  refine lv_iload_n hx hb dX5_ended_11 rfl (lv_at hl 1 rfl) ?_
  refine lv_aload_n hx hb dX5_ended_12 rfl (lv_at hl 0 rfl) ?_
  refine gf_X5_78 hx hb hts hown hw (by decide) hM rfl dX5_ended_13 ?_
  refine lv_icmp_gt (tgt := 23) hx hb dX5_ended_16 (by decide) (fun q2 => absurd q2 (nI_nlt (by omega) (by omega))) (fun q2 => ?_)
  refine lv_iconst (v := nI 1) hx hb dX5_ended_19 (by decide) ?_
  refine lv_goto (tgt := 24) hx hb dX5_ended_20 (by decide) ?_
  refine lv_istore_n (lv' := [(2, .int (nI 1)), (0, .ref (ad 77)), (1, .int (nI r))]) hx hb dX5_ended_24 rfl hl (by decide) rfl (fun ls hl => ?_)
  refine lv_aload_n hx hb dX5_ended_25 rfl (lv_at hl 1 rfl) ?_
  refine lv_iload_n hx hb dX5_ended_26 rfl (lv_at hl 0 rfl) ?_
  refine lv_if_ne (tgt := 34) hx hb dX5_ended_27 (by decide) (fun q_2 => ?_) (fun q_2 => absurd q_2 (by decide))
  refine lv_aload_n hx hb dX5_ended_34 rfl (lv_at hl 1 rfl) ?_
  refine gf_X5_71 hx hb hts hown hw (by decide) hM rfl dX5_ended_35 ?_
  refine lv_if_ne (tgt := 45) hx hb dX5_ended_38 (by decide) (fun q_3 => ?_) (fun q_3 => absurd q_3 (by decide))
  refine lv_iconst (v := nI 0) hx hb dX5_ended_45 (by decide) ?_
  refine x_callW1 (As := [.int (nI 0)]) (rest := []) hC vf_X5_64 hw hA (by decide) hM rfl rfl (k5_refuses0 l _ _ _ _ _ _ _ _ hM) ⟨rfl, rfl, Nat.le_of_ble_eq_true rfl, Nat.le_of_ble_eq_true rfl⟩ hl.1 (Nat.le_of_ble_eq_true rfl) dX5_ended_46 ⟨Nat.zero_le _, Nat.zero_le _⟩ rfl (fun w_5 H locs hu_4 hw => ?_)
  have hc_6 : w_5 77 = .inr (4, [.int (nI 0), .int (nI n), .int (nI t), .int (nI 1), .ref (ad 78), .ref (ad 79), .ref (ad 80), .ref (ad 81), .ref (ad 82), .ref (ad 83), .int (nI qu), .ref (ad 84), .ref (ad 85), .ref (ad 86), .int (nI en), .int (nI kp), .ref (ad 87), .long hs]) := by rw [hu_4]; exact va_up_self _ _ _
  have hc_7 : w_5 78 = .inl (cZ, 17, .inl dz) := by rw [hu_4, va_up_ne _ _ (by decide)]; exact hDz
  have hc_8 : w_5 79 = .inl (cZ, 17, .inl oz) := by rw [hu_4, va_up_ne _ _ (by decide)]; exact hOz
  have hc_9 : w_5 80 = .inl (cJ, 289, .inr (.inl cf)) := by rw [hu_4, va_up_ne _ _ (by decide)]; exact hCf
  have hc_10 : w_5 81 = .inl (cJ, 289, .inr (.inl mf)) := by rw [hu_4, va_up_ne _ _ (by decide)]; exact hMf
  have hc_11 : w_5 82 = .inl (cJ, 289, .inr (.inl sf)) := by rw [hu_4, va_up_ne _ _ (by decide)]; exact hSf
  have hc_12 : w_5 83 = .inl (cZ, 289, .inl xf) := by rw [hu_4, va_up_ne _ _ (by decide)]; exact hXf
  have hc_13 : w_5 84 = .inl (cJ, 17, .inr (.inl kyf)) := by rw [hu_4, va_up_ne _ _ (by decide)]; exact hKy
  have hc_14 : w_5 85 = .inl (cJ, 17, .inr (.inl swf)) := by rw [hu_4, va_up_ne _ _ (by decide)]; exact hSw
  have hc_15 : w_5 86 = .inl (cJ, 301, .inr (.inl vlf)) := by rw [hu_4, va_up_ne _ _ (by decide)]; exact hVl
  have hc_16 : w_5 87 = .inl (cJ, 17, .inr (.inl plf)) := by rw [hu_4, va_up_ne _ _ (by decide)]; exact hPl
  refine lv_if_eq (tgt := 56) hx hb dX5_ended_49 (by decide) (fun q_17 => ?_) (fun q_17 => absurd (by decide) q_17)
  refine lv_aload_n hx hb dX5_ended_56 rfl (lv_at hl 1 rfl) ?_
  refine gf_X5_35 hx hb hts hown hw (by decide) hc_6 rfl dX5_ended_57 ?_
  refine lv_iload_n hx hb dX5_ended_60 rfl (lv_at hl 2 rfl) ?_
  refine x_lald hx hb hw (by decide) 1 hc_15 rfl (j := r) (by omega) (by decide) (hvl rfl r hr0) dX5_ended_61 ?_
  have hfr : ∀ z, z ≠ 77 → w_5 z = w z := fun z hhfr0 => by rw [hu_4, va_up_ne _ _ hhfr0]
  exact x_wretL hx hb hr hlocks hw ⟨fun z hz => hfr z (by omega), RM.set77 hRM hfr hc_6⟩ dX5_ended_62
set_option maxHeartbeats 4000000 in
set_option maxRecDepth 100000 in
theorem m_endedN (l : Launch) {D : va_G} {cI cJ cZ cD : ClassId} {ad : Nat → Nat} {w : Nat → va_E} {sz : Nat} (n t cl qu en kp : Nat) (dl ou cp ks pt : Nat → Nat) (co sh : Nat → Nat → Nat) (vs : Nat → Int64) (cd : Int32) (hok : OkS n t cl qu en kp dl ou cp ks pt co sh) (hRM : RM ad cJ cZ w cd n t cl qu en kp dl ou cp ks pt co sh vs) (r : Int32) (hr0 : r < 0)  : MW l yX5_ended (.code yX5_ended cX5_ended 3 (some .long)) ({ frames := 1, cells := 0, slots := 0, locals := 30 }) [.ref (ad 77), .int r] D (tyL cI cJ cZ cD) ad 89 w sz (some (.long (lN 0))) (fun u => (∀ z, z < 77 ∨ 87 < z → u z = w z) ∧ RM ad cJ cZ u (nI 1) n t cl qu en kp dl ou cp ks pt co sh vs) := by
  refine MW.of (by decide) (Nat.le_of_ble_eq_true rfl) ?_
  intro p e s m below meth c ls hC hr hlocks hl hw
  obtain ⟨hx, hb, hml, hown, hts⟩ := id hC
  have hA : ∀ q, s.heap.size ≤ q → xA ad 89 s.heap.size q := fun q h => Or.inr h
  have hl : lv_has ls 3 [(0, .ref (ad 77)), (1, .int r)] := hl
  obtain ⟨⟨hs, hM⟩, ⟨dz, oz, hDz, hOz, hdo⟩, ⟨cf, mf, sf, hCf, hMf, hSf, hcs⟩, ⟨xf, hXf, hxx⟩, ⟨kyf, swf, hKy, hSw, hks⟩, ⟨vlf, hVl, hvl⟩, ⟨plf, hPl, hpl⟩⟩ := id hRM
  obtain ⟨⟨hn, ht, hcl, hqu, hen, hkp⟩, hle, ⟨hqb, hkb, hcb⟩, hvals, hclv, hptl, ⟨hz1, hz2, hz3⟩⟩ := id hok
  refine lv_iload_n hx hb dX5_ended_0 rfl (lv_at hl 1 rfl) ?_
  refine lv_if_lt (tgt := 23) hx hb dX5_ended_1 (by decide) (fun q1 => ?_) (fun q1 => absurd hr0 q1)
  refine lv_iconst (v := nI 0) hx hb dX5_ended_23 (by decide) ?_
  refine lv_istore_n (lv' := [(2, .int (nI 0)), (0, .ref (ad 77)), (1, .int r)]) hx hb dX5_ended_24 rfl hl (by decide) rfl (fun ls hl => ?_)
  refine lv_aload_n hx hb dX5_ended_25 rfl (lv_at hl 1 rfl) ?_
  refine lv_iload_n hx hb dX5_ended_26 rfl (lv_at hl 0 rfl) ?_
  refine lv_if_ne (tgt := 34) hx hb dX5_ended_27 (by decide) (fun q_1 => absurd (by decide) q_1) (fun q_1 => ?_)
  refine lv_iconst (v := nI 1) hx hb dX5_ended_30 (by decide) ?_
  refine lv_goto (tgt := 46) hx hb dX5_ended_31 (by decide) ?_
  refine x_callW1 (As := [.int (nI 1)]) (rest := []) hC vf_X5_64 hw hA (by decide) hM rfl rfl (k5_refuses1 l _ _ _ _ _ _ _ _ hM) ⟨rfl, rfl, Nat.le_of_ble_eq_true rfl, Nat.le_of_ble_eq_true rfl⟩ hl.1 (Nat.le_of_ble_eq_true rfl) dX5_ended_46 ⟨Nat.zero_le _, Nat.zero_le _⟩ rfl (fun w_3 H locs hu_2 hw => ?_)
  have hc_4 : w_3 77 = .inr (4, [.int (nI 1), .int (nI n), .int (nI t), .int (nI cl), .ref (ad 78), .ref (ad 79), .ref (ad 80), .ref (ad 81), .ref (ad 82), .ref (ad 83), .int (nI qu), .ref (ad 84), .ref (ad 85), .ref (ad 86), .int (nI en), .int (nI kp), .ref (ad 87), .long hs]) := by rw [hu_2]; exact va_up_self _ _ _
  have hc_5 : w_3 78 = .inl (cZ, 17, .inl dz) := by rw [hu_2, va_up_ne _ _ (by decide)]; exact hDz
  have hc_6 : w_3 79 = .inl (cZ, 17, .inl oz) := by rw [hu_2, va_up_ne _ _ (by decide)]; exact hOz
  have hc_7 : w_3 80 = .inl (cJ, 289, .inr (.inl cf)) := by rw [hu_2, va_up_ne _ _ (by decide)]; exact hCf
  have hc_8 : w_3 81 = .inl (cJ, 289, .inr (.inl mf)) := by rw [hu_2, va_up_ne _ _ (by decide)]; exact hMf
  have hc_9 : w_3 82 = .inl (cJ, 289, .inr (.inl sf)) := by rw [hu_2, va_up_ne _ _ (by decide)]; exact hSf
  have hc_10 : w_3 83 = .inl (cZ, 289, .inl xf) := by rw [hu_2, va_up_ne _ _ (by decide)]; exact hXf
  have hc_11 : w_3 84 = .inl (cJ, 17, .inr (.inl kyf)) := by rw [hu_2, va_up_ne _ _ (by decide)]; exact hKy
  have hc_12 : w_3 85 = .inl (cJ, 17, .inr (.inl swf)) := by rw [hu_2, va_up_ne _ _ (by decide)]; exact hSw
  have hc_13 : w_3 86 = .inl (cJ, 301, .inr (.inl vlf)) := by rw [hu_2, va_up_ne _ _ (by decide)]; exact hVl
  have hc_14 : w_3 87 = .inl (cJ, 17, .inr (.inl plf)) := by rw [hu_2, va_up_ne _ _ (by decide)]; exact hPl
  refine lv_if_eq (tgt := 56) hx hb dX5_ended_49 (by decide) (fun q_15 => absurd q_15 (by decide)) (fun q_15 => ?_)
  refine lv_lconst (v := lN 0) hx hb dX5_ended_52 (by decide) ?_
  refine lv_goto (tgt := 62) hx hb dX5_ended_53 (by decide) ?_
  have hfr : ∀ z, z ≠ 77 → w_3 z = w z := fun z hhfr0 => by rw [hu_2, va_up_ne _ _ hhfr0]
  exact x_wretL hx hb hr hlocks hw ⟨fun z hz => hfr z (by omega), RM.set77 hRM hfr hc_4⟩ dX5_ended_62
set_option maxHeartbeats 4000000 in
set_option maxRecDepth 100000 in
theorem m_endedC (l : Launch) {D : va_G} {cI cJ cZ cD : ClassId} {ad : Nat → Nat} {w : Nat → va_E} {sz : Nat} (n t cl qu en kp : Nat) (dl ou cp ks pt : Nat → Nat) (co sh : Nat → Nat → Nat) (vs : Nat → Int64) (cd : Int32) (hok : OkS n t cl qu en kp dl ou cp ks pt co sh) (hRM : RM ad cJ cZ w cd n t cl qu en kp dl ou cp ks pt co sh vs) (r : Int32) (hr0 : ¬ r < 0) (hcl0 : cl = 0)  : MW l yX5_ended (.code yX5_ended cX5_ended 3 (some .long)) ({ frames := 1, cells := 0, slots := 0, locals := 30 }) [.ref (ad 77), .int r] D (tyL cI cJ cZ cD) ad 89 w sz (some (.long (lN 0))) (fun u => (∀ z, z < 77 ∨ 87 < z → u z = w z) ∧ RM ad cJ cZ u (nI 2) n t 0 qu en kp dl ou cp ks pt co sh vs) := by
  refine MW.of (by decide) (Nat.le_of_ble_eq_true rfl) ?_
  intro p e s m below meth c ls hC hr hlocks hl hw
  obtain ⟨hx, hb, hml, hown, hts⟩ := id hC
  have hA : ∀ q, s.heap.size ≤ q → xA ad 89 s.heap.size q := fun q h => Or.inr h
  have hl : lv_has ls 3 [(0, .ref (ad 77)), (1, .int r)] := hl
  obtain ⟨⟨hs, hM⟩, ⟨dz, oz, hDz, hOz, hdo⟩, ⟨cf, mf, sf, hCf, hMf, hSf, hcs⟩, ⟨xf, hXf, hxx⟩, ⟨kyf, swf, hKy, hSw, hks⟩, ⟨vlf, hVl, hvl⟩, ⟨plf, hPl, hpl⟩⟩ := id hRM
  obtain ⟨⟨hn, ht, hcl, hqu, hen, hkp⟩, hle, ⟨hqb, hkb, hcb⟩, hvals, hclv, hptl, ⟨hz1, hz2, hz3⟩⟩ := id hok
  subst hcl0
  refine lv_iload_n hx hb dX5_ended_0 rfl (lv_at hl 1 rfl) ?_
  refine lv_if_lt (tgt := 23) hx hb dX5_ended_1 (by decide) (fun q1 => absurd q1 hr0) (fun q1 => ?_)
  refine lv_aload_n hx hb dX5_ended_4 rfl (lv_at hl 0 rfl) ?_
  refine gf_X5_71 hx hb hts hown hw (by decide) hM rfl dX5_ended_5 ?_
  refine lv_if_eq (tgt := 19) hx hb dX5_ended_8 (by decide) (fun q_1 => ?_) (fun q_1 => absurd (by decide) q_1)
  refine lv_iconst (v := nI 1) hx hb dX5_ended_19 (by decide) ?_
  refine lv_goto (tgt := 24) hx hb dX5_ended_20 (by decide) ?_
  refine lv_istore_n (lv' := [(2, .int (nI 1)), (0, .ref (ad 77)), (1, .int r)]) hx hb dX5_ended_24 rfl hl (by decide) rfl (fun ls hl => ?_)
  refine lv_aload_n hx hb dX5_ended_25 rfl (lv_at hl 1 rfl) ?_
  refine lv_iload_n hx hb dX5_ended_26 rfl (lv_at hl 0 rfl) ?_
  refine lv_if_ne (tgt := 34) hx hb dX5_ended_27 (by decide) (fun q_2 => ?_) (fun q_2 => absurd q_2 (by decide))
  refine lv_aload_n hx hb dX5_ended_34 rfl (lv_at hl 1 rfl) ?_
  refine gf_X5_71 hx hb hts hown hw (by decide) hM rfl dX5_ended_35 ?_
  refine lv_if_ne (tgt := 45) hx hb dX5_ended_38 (by decide) (fun q_3 => absurd (by decide) q_3) (fun q_3 => ?_)
  refine lv_iconst (v := nI 2) hx hb dX5_ended_41 (by decide) ?_
  refine lv_goto (tgt := 46) hx hb dX5_ended_42 (by decide) ?_
  refine x_callW1 (As := [.int (nI 2)]) (rest := []) hC vf_X5_64 hw hA (by decide) hM rfl rfl (k5_refuses2 l _ _ _ _ _ _ _ _ hM) ⟨rfl, rfl, Nat.le_of_ble_eq_true rfl, Nat.le_of_ble_eq_true rfl⟩ hl.1 (Nat.le_of_ble_eq_true rfl) dX5_ended_46 ⟨Nat.zero_le _, Nat.zero_le _⟩ rfl (fun w_5 H locs hu_4 hw => ?_)
  have hc_6 : w_5 77 = .inr (4, [.int (nI 2), .int (nI n), .int (nI t), .int (nI 0), .ref (ad 78), .ref (ad 79), .ref (ad 80), .ref (ad 81), .ref (ad 82), .ref (ad 83), .int (nI qu), .ref (ad 84), .ref (ad 85), .ref (ad 86), .int (nI en), .int (nI kp), .ref (ad 87), .long hs]) := by rw [hu_4]; exact va_up_self _ _ _
  have hc_7 : w_5 78 = .inl (cZ, 17, .inl dz) := by rw [hu_4, va_up_ne _ _ (by decide)]; exact hDz
  have hc_8 : w_5 79 = .inl (cZ, 17, .inl oz) := by rw [hu_4, va_up_ne _ _ (by decide)]; exact hOz
  have hc_9 : w_5 80 = .inl (cJ, 289, .inr (.inl cf)) := by rw [hu_4, va_up_ne _ _ (by decide)]; exact hCf
  have hc_10 : w_5 81 = .inl (cJ, 289, .inr (.inl mf)) := by rw [hu_4, va_up_ne _ _ (by decide)]; exact hMf
  have hc_11 : w_5 82 = .inl (cJ, 289, .inr (.inl sf)) := by rw [hu_4, va_up_ne _ _ (by decide)]; exact hSf
  have hc_12 : w_5 83 = .inl (cZ, 289, .inl xf) := by rw [hu_4, va_up_ne _ _ (by decide)]; exact hXf
  have hc_13 : w_5 84 = .inl (cJ, 17, .inr (.inl kyf)) := by rw [hu_4, va_up_ne _ _ (by decide)]; exact hKy
  have hc_14 : w_5 85 = .inl (cJ, 17, .inr (.inl swf)) := by rw [hu_4, va_up_ne _ _ (by decide)]; exact hSw
  have hc_15 : w_5 86 = .inl (cJ, 301, .inr (.inl vlf)) := by rw [hu_4, va_up_ne _ _ (by decide)]; exact hVl
  have hc_16 : w_5 87 = .inl (cJ, 17, .inr (.inl plf)) := by rw [hu_4, va_up_ne _ _ (by decide)]; exact hPl
  refine lv_if_eq (tgt := 56) hx hb dX5_ended_49 (by decide) (fun q_17 => absurd q_17 (by decide)) (fun q_17 => ?_)
  refine lv_lconst (v := lN 0) hx hb dX5_ended_52 (by decide) ?_
  refine lv_goto (tgt := 62) hx hb dX5_ended_53 (by decide) ?_
  have hfr : ∀ z, z ≠ 77 → w_5 z = w z := fun z hhfr0 => by rw [hu_4, va_up_ne _ _ hhfr0]
  exact x_wretL hx hb hr hlocks hw ⟨fun z hz => hfr z (by omega), RM.set77 hRM hfr hc_6⟩ dX5_ended_62
set_option maxHeartbeats 4000000 in
set_option maxRecDepth 100000 in
theorem m_endedA (l : Launch) {D : va_G} {cI cJ cZ cD : ClassId} {ad : Nat → Nat} {w : Nat → va_E} {sz : Nat} (n t cl qu en kp : Nat) (dl ou cp ks pt : Nat → Nat) (co sh : Nat → Nat → Nat) (vs : Nat → Int64) (cd : Int32) (hok : OkS n t cl qu en kp dl ou cp ks pt co sh) (hRM : RM ad cJ cZ w cd n t cl qu en kp dl ou cp ks pt co sh vs) (r : Int32) (hr0 : ¬ r < 0) (hr1 : ¬ r ≤ nI en) (hcl0 : cl = 1)  : MW l yX5_ended (.code yX5_ended cX5_ended 3 (some .long)) ({ frames := 1, cells := 0, slots := 0, locals := 30 }) [.ref (ad 77), .int r] D (tyL cI cJ cZ cD) ad 89 w sz (some (.long (lN 0))) (fun u => (∀ z, z < 77 ∨ 87 < z → u z = w z) ∧ RM ad cJ cZ u (nI 1) n t 1 qu en kp dl ou cp ks pt co sh vs) := by
  refine MW.of (by decide) (Nat.le_of_ble_eq_true rfl) ?_
  intro p e s m below meth c ls hC hr hlocks hl hw
  obtain ⟨hx, hb, hml, hown, hts⟩ := id hC
  have hA : ∀ q, s.heap.size ≤ q → xA ad 89 s.heap.size q := fun q h => Or.inr h
  have hl : lv_has ls 3 [(0, .ref (ad 77)), (1, .int r)] := hl
  obtain ⟨⟨hs, hM⟩, ⟨dz, oz, hDz, hOz, hdo⟩, ⟨cf, mf, sf, hCf, hMf, hSf, hcs⟩, ⟨xf, hXf, hxx⟩, ⟨kyf, swf, hKy, hSw, hks⟩, ⟨vlf, hVl, hvl⟩, ⟨plf, hPl, hpl⟩⟩ := id hRM
  obtain ⟨⟨hn, ht, hcl, hqu, hen, hkp⟩, hle, ⟨hqb, hkb, hcb⟩, hvals, hclv, hptl, ⟨hz1, hz2, hz3⟩⟩ := id hok
  subst hcl0
  refine lv_iload_n hx hb dX5_ended_0 rfl (lv_at hl 1 rfl) ?_
  refine lv_if_lt (tgt := 23) hx hb dX5_ended_1 (by decide) (fun q1 => absurd q1 hr0) (fun q1 => ?_)
  refine lv_aload_n hx hb dX5_ended_4 rfl (lv_at hl 0 rfl) ?_
  refine gf_X5_71 hx hb hts hown hw (by decide) hM rfl dX5_ended_5 ?_
  refine lv_if_eq (tgt := 19) hx hb dX5_ended_8 (by decide) (fun q_1 => absurd q_1 (by decide)) (fun q_1 => ?_)
  refine lv_iload_n hx hb dX5_ended_11 rfl (lv_at hl 1 rfl) ?_
  refine lv_aload_n hx hb dX5_ended_12 rfl (lv_at hl 0 rfl) ?_
  refine gf_X5_78 hx hb hts hown hw (by decide) hM rfl dX5_ended_13 ?_
  refine lv_icmp_gt (tgt := 23) hx hb dX5_ended_16 (by decide) (fun q2 => ?_) (fun q2 => absurd (nlt_of hr1) q2)
  refine lv_iconst (v := nI 0) hx hb dX5_ended_23 (by decide) ?_
  refine lv_istore_n (lv' := [(2, .int (nI 0)), (0, .ref (ad 77)), (1, .int r)]) hx hb dX5_ended_24 rfl hl (by decide) rfl (fun ls hl => ?_)
  refine lv_aload_n hx hb dX5_ended_25 rfl (lv_at hl 1 rfl) ?_
  refine lv_iload_n hx hb dX5_ended_26 rfl (lv_at hl 0 rfl) ?_
  refine lv_if_ne (tgt := 34) hx hb dX5_ended_27 (by decide) (fun q_2 => absurd (by decide) q_2) (fun q_2 => ?_)
  refine lv_iconst (v := nI 1) hx hb dX5_ended_30 (by decide) ?_
  refine lv_goto (tgt := 46) hx hb dX5_ended_31 (by decide) ?_
  refine x_callW1 (As := [.int (nI 1)]) (rest := []) hC vf_X5_64 hw hA (by decide) hM rfl rfl (k5_refuses1 l _ _ _ _ _ _ _ _ hM) ⟨rfl, rfl, Nat.le_of_ble_eq_true rfl, Nat.le_of_ble_eq_true rfl⟩ hl.1 (Nat.le_of_ble_eq_true rfl) dX5_ended_46 ⟨Nat.zero_le _, Nat.zero_le _⟩ rfl (fun w_4 H locs hu_3 hw => ?_)
  have hc_5 : w_4 77 = .inr (4, [.int (nI 1), .int (nI n), .int (nI t), .int (nI 1), .ref (ad 78), .ref (ad 79), .ref (ad 80), .ref (ad 81), .ref (ad 82), .ref (ad 83), .int (nI qu), .ref (ad 84), .ref (ad 85), .ref (ad 86), .int (nI en), .int (nI kp), .ref (ad 87), .long hs]) := by rw [hu_3]; exact va_up_self _ _ _
  have hc_6 : w_4 78 = .inl (cZ, 17, .inl dz) := by rw [hu_3, va_up_ne _ _ (by decide)]; exact hDz
  have hc_7 : w_4 79 = .inl (cZ, 17, .inl oz) := by rw [hu_3, va_up_ne _ _ (by decide)]; exact hOz
  have hc_8 : w_4 80 = .inl (cJ, 289, .inr (.inl cf)) := by rw [hu_3, va_up_ne _ _ (by decide)]; exact hCf
  have hc_9 : w_4 81 = .inl (cJ, 289, .inr (.inl mf)) := by rw [hu_3, va_up_ne _ _ (by decide)]; exact hMf
  have hc_10 : w_4 82 = .inl (cJ, 289, .inr (.inl sf)) := by rw [hu_3, va_up_ne _ _ (by decide)]; exact hSf
  have hc_11 : w_4 83 = .inl (cZ, 289, .inl xf) := by rw [hu_3, va_up_ne _ _ (by decide)]; exact hXf
  have hc_12 : w_4 84 = .inl (cJ, 17, .inr (.inl kyf)) := by rw [hu_3, va_up_ne _ _ (by decide)]; exact hKy
  have hc_13 : w_4 85 = .inl (cJ, 17, .inr (.inl swf)) := by rw [hu_3, va_up_ne _ _ (by decide)]; exact hSw
  have hc_14 : w_4 86 = .inl (cJ, 301, .inr (.inl vlf)) := by rw [hu_3, va_up_ne _ _ (by decide)]; exact hVl
  have hc_15 : w_4 87 = .inl (cJ, 17, .inr (.inl plf)) := by rw [hu_3, va_up_ne _ _ (by decide)]; exact hPl
  refine lv_if_eq (tgt := 56) hx hb dX5_ended_49 (by decide) (fun q_16 => absurd q_16 (by decide)) (fun q_16 => ?_)
  refine lv_lconst (v := lN 0) hx hb dX5_ended_52 (by decide) ?_
  refine lv_goto (tgt := 62) hx hb dX5_ended_53 (by decide) ?_
  have hfr : ∀ z, z ≠ 77 → w_4 z = w z := fun z hhfr0 => by rw [hu_3, va_up_ne _ _ hhfr0]
  exact x_wretL hx hb hr hlocks hw ⟨fun z hz => hfr z (by omega), RM.set77 hRM hfr hc_5⟩ dX5_ended_62
set_option maxHeartbeats 4000000 in
set_option maxRecDepth 100000 in
theorem m_random (l : Launch) {D : va_G} {cI cJ cZ cD : ClassId} {ad : Nat → Nat} {w : Nat → va_E} {sz : Nat} (n t cl qu en kp : Nat) (dl ou cp ks pt : Nat → Nat) (co sh : Nat → Nat → Nat) (vs : Nat → Int64) (cd : Int32) (hok : OkS n t cl qu en kp dl ou cp ks pt co sh) (hRM : RM ad cJ cZ w cd n t cl qu en kp dl ou cp ks pt co sh vs) (r : Nat) (hr0 : r ≤ en) (hcl0 : cl = 1)  : MW l yX5_random (.code yX5_random cX5_random 3 (some .long)) ({ frames := 1, cells := 0, slots := 0, locals := 30 }) [.ref (ad 77), .int (nI r)] D (tyL cI cJ cZ cD) ad 89 w sz (some (.long (stirF (stirF (lN 0) (vs r)) (lN r)))) (fun u => (∀ z, z < 77 ∨ 87 < z → u z = w z) ∧ RM ad cJ cZ u (nI 0) n t 1 qu en kp dl ou cp ks pt co sh vs) := by
  refine MW.of (by decide) (Nat.le_of_ble_eq_true rfl) ?_
  intro p e s m below meth c ls hC hr hlocks hl hw
  obtain ⟨hx, hb, hml, hown, hts⟩ := id hC
  have hA : ∀ q, s.heap.size ≤ q → xA ad 89 s.heap.size q := fun q h => Or.inr h
  have hl : lv_has ls 3 [(0, .ref (ad 77)), (1, .int (nI r))] := hl
  obtain ⟨⟨hs, hM⟩, ⟨dz, oz, hDz, hOz, hdo⟩, ⟨cf, mf, sf, hCf, hMf, hSf, hcs⟩, ⟨xf, hXf, hxx⟩, ⟨kyf, swf, hKy, hSw, hks⟩, ⟨vlf, hVl, hvl⟩, ⟨plf, hPl, hpl⟩⟩ := id hRM
  obtain ⟨⟨hn, ht, hcl, hqu, hen, hkp⟩, hle, ⟨hqb, hkb, hcb⟩, hvals, hclv, hptl, ⟨hz1, hz2, hz3⟩⟩ := id hok
  subst hcl0
  refine lv_iload_n hx hb dX5_random_0 rfl (lv_at hl 1 rfl) ?_
  refine lv_if_lt (tgt := 23) hx hb dX5_random_1 (by decide) (fun q1 => absurd q1 (nI_pos (by omega))) (fun q1 => ?_)
  refine lv_aload_n hx hb dX5_random_4 rfl (lv_at hl 0 rfl) ?_
  refine gf_X5_71 hx hb hts hown hw (by decide) hM rfl dX5_random_5 ?_
  refine lv_if_eq (tgt := 19) hx hb dX5_random_8 (by decide) (fun q_1 => absurd q_1 (by decide)) (fun q_1 => ?_)
  refine lv_iload_n hx hb dX5_random_11 rfl (lv_at hl 1 rfl) ?_
  refine lv_aload_n hx hb dX5_random_12 rfl (lv_at hl 0 rfl) ?_
  refine gf_X5_78 hx hb hts hown hw (by decide) hM rfl dX5_random_13 ?_
  refine lv_icmp_gt (tgt := 23) hx hb dX5_random_16 (by decide) (fun q2 => absurd q2 (nI_nlt (by omega) (by omega))) (fun q2 => ?_)
  refine lv_iconst (v := nI 1) hx hb dX5_random_19 (by decide) ?_
  refine lv_goto (tgt := 24) hx hb dX5_random_20 (by decide) ?_
  refine lv_istore_n (lv' := [(2, .int (nI 1)), (0, .ref (ad 77)), (1, .int (nI r))]) hx hb dX5_random_24 rfl hl (by decide) rfl (fun ls hl => ?_)
  refine lv_aload_n hx hb dX5_random_25 rfl (lv_at hl 1 rfl) ?_
  refine lv_iload_n hx hb dX5_random_26 rfl (lv_at hl 0 rfl) ?_
  refine lv_if_ne (tgt := 34) hx hb dX5_random_27 (by decide) (fun q_2 => ?_) (fun q_2 => absurd q_2 (by decide))
  refine lv_aload_n hx hb dX5_random_34 rfl (lv_at hl 1 rfl) ?_
  refine gf_X5_71 hx hb hts hown hw (by decide) hM rfl dX5_random_35 ?_
  refine lv_if_ne (tgt := 45) hx hb dX5_random_38 (by decide) (fun q_3 => ?_) (fun q_3 => absurd q_3 (by decide))
  refine lv_iconst (v := nI 0) hx hb dX5_random_45 (by decide) ?_
  refine x_callW1 (As := [.int (nI 0)]) (rest := []) hC vf_X5_64 hw hA (by decide) hM rfl rfl (k5_refuses0 l _ _ _ _ _ _ _ _ hM) ⟨rfl, rfl, Nat.le_of_ble_eq_true rfl, Nat.le_of_ble_eq_true rfl⟩ hl.1 (Nat.le_of_ble_eq_true rfl) dX5_random_46 ⟨Nat.zero_le _, Nat.zero_le _⟩ rfl (fun w_5 H locs hu_4 hw => ?_)
  have hc_6 : w_5 77 = .inr (4, [.int (nI 0), .int (nI n), .int (nI t), .int (nI 1), .ref (ad 78), .ref (ad 79), .ref (ad 80), .ref (ad 81), .ref (ad 82), .ref (ad 83), .int (nI qu), .ref (ad 84), .ref (ad 85), .ref (ad 86), .int (nI en), .int (nI kp), .ref (ad 87), .long hs]) := by rw [hu_4]; exact va_up_self _ _ _
  have hc_7 : w_5 78 = .inl (cZ, 17, .inl dz) := by rw [hu_4, va_up_ne _ _ (by decide)]; exact hDz
  have hc_8 : w_5 79 = .inl (cZ, 17, .inl oz) := by rw [hu_4, va_up_ne _ _ (by decide)]; exact hOz
  have hc_9 : w_5 80 = .inl (cJ, 289, .inr (.inl cf)) := by rw [hu_4, va_up_ne _ _ (by decide)]; exact hCf
  have hc_10 : w_5 81 = .inl (cJ, 289, .inr (.inl mf)) := by rw [hu_4, va_up_ne _ _ (by decide)]; exact hMf
  have hc_11 : w_5 82 = .inl (cJ, 289, .inr (.inl sf)) := by rw [hu_4, va_up_ne _ _ (by decide)]; exact hSf
  have hc_12 : w_5 83 = .inl (cZ, 289, .inl xf) := by rw [hu_4, va_up_ne _ _ (by decide)]; exact hXf
  have hc_13 : w_5 84 = .inl (cJ, 17, .inr (.inl kyf)) := by rw [hu_4, va_up_ne _ _ (by decide)]; exact hKy
  have hc_14 : w_5 85 = .inl (cJ, 17, .inr (.inl swf)) := by rw [hu_4, va_up_ne _ _ (by decide)]; exact hSw
  have hc_15 : w_5 86 = .inl (cJ, 301, .inr (.inl vlf)) := by rw [hu_4, va_up_ne _ _ (by decide)]; exact hVl
  have hc_16 : w_5 87 = .inl (cJ, 17, .inr (.inl plf)) := by rw [hu_4, va_up_ne _ _ (by decide)]; exact hPl
  refine lv_if_eq (tgt := 54) hx hb dX5_random_49 (by decide) (fun q_17 => ?_) (fun q_17 => absurd (by decide) q_17)
  refine lv_aload_n hx hb dX5_random_54 rfl (lv_at hl 1 rfl) ?_
  refine lv_lconst (v := lN 0) hx hb dX5_random_55 (by decide) ?_
  refine pf_X5_45 (v := .long (lN 0)) hx hb hts hown hw (by decide) hc_6 rfl rfl (Nat.le_of_ble_eq_true rfl) dX5_random_56 (fun w_18 H locs ew_19 hw => ?_)
  have hc_20 : w_18 77 = .inr (4, [.int (nI 0), .int (nI n), .int (nI t), .int (nI 1), .ref (ad 78), .ref (ad 79), .ref (ad 80), .ref (ad 81), .ref (ad 82), .ref (ad 83), .int (nI qu), .ref (ad 84), .ref (ad 85), .ref (ad 86), .int (nI en), .int (nI kp), .ref (ad 87), .long (lN 0)]) := by rw [ew_19]; exact va_up_self _ _ _
  have hc_21 : w_18 78 = .inl (cZ, 17, .inl dz) := by rw [ew_19]; exact (va_up_ne _ _ (by omega)).trans hc_7
  have hc_22 : w_18 79 = .inl (cZ, 17, .inl oz) := by rw [ew_19]; exact (va_up_ne _ _ (by omega)).trans hc_8
  have hc_23 : w_18 80 = .inl (cJ, 289, .inr (.inl cf)) := by rw [ew_19]; exact (va_up_ne _ _ (by omega)).trans hc_9
  have hc_24 : w_18 81 = .inl (cJ, 289, .inr (.inl mf)) := by rw [ew_19]; exact (va_up_ne _ _ (by omega)).trans hc_10
  have hc_25 : w_18 82 = .inl (cJ, 289, .inr (.inl sf)) := by rw [ew_19]; exact (va_up_ne _ _ (by omega)).trans hc_11
  have hc_26 : w_18 83 = .inl (cZ, 289, .inl xf) := by rw [ew_19]; exact (va_up_ne _ _ (by omega)).trans hc_12
  have hc_27 : w_18 84 = .inl (cJ, 17, .inr (.inl kyf)) := by rw [ew_19]; exact (va_up_ne _ _ (by omega)).trans hc_13
  have hc_28 : w_18 85 = .inl (cJ, 17, .inr (.inl swf)) := by rw [ew_19]; exact (va_up_ne _ _ (by omega)).trans hc_14
  have hc_29 : w_18 86 = .inl (cJ, 301, .inr (.inl vlf)) := by rw [ew_19]; exact (va_up_ne _ _ (by omega)).trans hc_15
  have hc_30 : w_18 87 = .inl (cJ, 17, .inr (.inl plf)) := by rw [ew_19]; exact (va_up_ne _ _ (by omega)).trans hc_16
  refine lv_aload_n hx hb dX5_random_59 rfl (lv_at hl 1 rfl) ?_
  refine lv_aload_n hx hb dX5_random_60 rfl (lv_at hl 1 rfl) ?_
  refine gf_X5_35 hx hb hts hown hw (by decide) hc_20 rfl dX5_random_61 ?_
  refine lv_iload_n hx hb dX5_random_64 rfl (lv_at hl 2 rfl) ?_
  refine x_lald hx hb hw (by decide) 1 hc_29 rfl (j := r) (by omega) (by decide) (hvl rfl r hr0) dX5_random_65 ?_
  refine x_callW0 (As := [.long (vs r)]) (rest := []) hC vf_X5_87 hw hA (by decide) hc_20 rfl rfl (k5_hashes l _ _ _ _ _ _ _ _ (vs r) hc_20) ⟨rfl, rfl, Nat.le_of_ble_eq_true rfl, Nat.le_of_ble_eq_true rfl⟩ hl.1 (Nat.le_of_ble_eq_true rfl) dX5_random_66 ⟨Nat.zero_le _, Nat.zero_le _⟩ rfl (fun w_32 H locs hu_31 hw => ?_)
  have hc_33 : w_32 77 = .inr (4, [.int (nI 0), .int (nI n), .int (nI t), .int (nI 1), .ref (ad 78), .ref (ad 79), .ref (ad 80), .ref (ad 81), .ref (ad 82), .ref (ad 83), .int (nI qu), .ref (ad 84), .ref (ad 85), .ref (ad 86), .int (nI en), .int (nI kp), .ref (ad 87), .long (stirF (lN 0) (vs r))]) := by rw [hu_31]; exact va_up_self _ _ _
  have hc_34 : w_32 78 = .inl (cZ, 17, .inl dz) := by rw [hu_31, va_up_ne _ _ (by decide)]; exact hc_21
  have hc_35 : w_32 79 = .inl (cZ, 17, .inl oz) := by rw [hu_31, va_up_ne _ _ (by decide)]; exact hc_22
  have hc_36 : w_32 80 = .inl (cJ, 289, .inr (.inl cf)) := by rw [hu_31, va_up_ne _ _ (by decide)]; exact hc_23
  have hc_37 : w_32 81 = .inl (cJ, 289, .inr (.inl mf)) := by rw [hu_31, va_up_ne _ _ (by decide)]; exact hc_24
  have hc_38 : w_32 82 = .inl (cJ, 289, .inr (.inl sf)) := by rw [hu_31, va_up_ne _ _ (by decide)]; exact hc_25
  have hc_39 : w_32 83 = .inl (cZ, 289, .inl xf) := by rw [hu_31, va_up_ne _ _ (by decide)]; exact hc_26
  have hc_40 : w_32 84 = .inl (cJ, 17, .inr (.inl kyf)) := by rw [hu_31, va_up_ne _ _ (by decide)]; exact hc_27
  have hc_41 : w_32 85 = .inl (cJ, 17, .inr (.inl swf)) := by rw [hu_31, va_up_ne _ _ (by decide)]; exact hc_28
  have hc_42 : w_32 86 = .inl (cJ, 301, .inr (.inl vlf)) := by rw [hu_31, va_up_ne _ _ (by decide)]; exact hc_29
  have hc_43 : w_32 87 = .inl (cJ, 17, .inr (.inl plf)) := by rw [hu_31, va_up_ne _ _ (by decide)]; exact hc_30
  refine lv_aload_n hx hb dX5_random_69 rfl (lv_at hl 1 rfl) ?_
  refine lv_iload_n hx hb dX5_random_70 rfl (lv_at hl 2 rfl) ?_
  refine lv_i2l hx hb dX5_random_71 (nI_l (by omega)) ?_
  refine x_callW0 (As := [.long (lN r)]) (rest := []) hC vf_X5_87 hw hA (by decide) hc_33 rfl rfl (k5_hashes l _ _ _ _ _ _ _ _ (lN r) hc_33) ⟨rfl, rfl, Nat.le_of_ble_eq_true rfl, Nat.le_of_ble_eq_true rfl⟩ hl.1 (Nat.le_of_ble_eq_true rfl) dX5_random_72 ⟨Nat.zero_le _, Nat.zero_le _⟩ rfl (fun w_45 H locs hu_44 hw => ?_)
  have hc_46 : w_45 77 = .inr (4, [.int (nI 0), .int (nI n), .int (nI t), .int (nI 1), .ref (ad 78), .ref (ad 79), .ref (ad 80), .ref (ad 81), .ref (ad 82), .ref (ad 83), .int (nI qu), .ref (ad 84), .ref (ad 85), .ref (ad 86), .int (nI en), .int (nI kp), .ref (ad 87), .long (stirF (stirF (lN 0) (vs r)) (lN r))]) := by rw [hu_44]; exact va_up_self _ _ _
  have hc_47 : w_45 78 = .inl (cZ, 17, .inl dz) := by rw [hu_44, va_up_ne _ _ (by decide)]; exact hc_34
  have hc_48 : w_45 79 = .inl (cZ, 17, .inl oz) := by rw [hu_44, va_up_ne _ _ (by decide)]; exact hc_35
  have hc_49 : w_45 80 = .inl (cJ, 289, .inr (.inl cf)) := by rw [hu_44, va_up_ne _ _ (by decide)]; exact hc_36
  have hc_50 : w_45 81 = .inl (cJ, 289, .inr (.inl mf)) := by rw [hu_44, va_up_ne _ _ (by decide)]; exact hc_37
  have hc_51 : w_45 82 = .inl (cJ, 289, .inr (.inl sf)) := by rw [hu_44, va_up_ne _ _ (by decide)]; exact hc_38
  have hc_52 : w_45 83 = .inl (cZ, 289, .inl xf) := by rw [hu_44, va_up_ne _ _ (by decide)]; exact hc_39
  have hc_53 : w_45 84 = .inl (cJ, 17, .inr (.inl kyf)) := by rw [hu_44, va_up_ne _ _ (by decide)]; exact hc_40
  have hc_54 : w_45 85 = .inl (cJ, 17, .inr (.inl swf)) := by rw [hu_44, va_up_ne _ _ (by decide)]; exact hc_41
  have hc_55 : w_45 86 = .inl (cJ, 301, .inr (.inl vlf)) := by rw [hu_44, va_up_ne _ _ (by decide)]; exact hc_42
  have hc_56 : w_45 87 = .inl (cJ, 17, .inr (.inl plf)) := by rw [hu_44, va_up_ne _ _ (by decide)]; exact hc_43
  refine lv_aload_n hx hb dX5_random_75 rfl (lv_at hl 1 rfl) ?_
  refine gf_X5_45 hx hb hts hown hw (by decide) hc_46 rfl dX5_random_76 ?_
  have hfr : ∀ z, z ≠ 77 → w_45 z = w z := fun z hhfr0 => by rw [hu_44, va_up_ne _ _ hhfr0, hu_31, va_up_ne _ _ hhfr0, ew_19, va_up_ne _ _ hhfr0, hu_4, va_up_ne _ _ hhfr0]
  exact x_wretL hx hb hr hlocks hw ⟨fun z hz => hfr z (by omega), RM.set77 hRM hfr hc_46⟩ dX5_random_79
set_option maxHeartbeats 4000000 in
set_option maxRecDepth 100000 in
theorem m_randomN (l : Launch) {D : va_G} {cI cJ cZ cD : ClassId} {ad : Nat → Nat} {w : Nat → va_E} {sz : Nat} (n t cl qu en kp : Nat) (dl ou cp ks pt : Nat → Nat) (co sh : Nat → Nat → Nat) (vs : Nat → Int64) (cd : Int32) (hok : OkS n t cl qu en kp dl ou cp ks pt co sh) (hRM : RM ad cJ cZ w cd n t cl qu en kp dl ou cp ks pt co sh vs) (r : Int32) (hr0 : r < 0)  : MW l yX5_random (.code yX5_random cX5_random 3 (some .long)) ({ frames := 1, cells := 0, slots := 0, locals := 30 }) [.ref (ad 77), .int r] D (tyL cI cJ cZ cD) ad 89 w sz (some (.long (lN 0))) (fun u => (∀ z, z < 77 ∨ 87 < z → u z = w z) ∧ RM ad cJ cZ u (nI 1) n t cl qu en kp dl ou cp ks pt co sh vs) := by
  refine MW.of (by decide) (Nat.le_of_ble_eq_true rfl) ?_
  intro p e s m below meth c ls hC hr hlocks hl hw
  obtain ⟨hx, hb, hml, hown, hts⟩ := id hC
  have hA : ∀ q, s.heap.size ≤ q → xA ad 89 s.heap.size q := fun q h => Or.inr h
  have hl : lv_has ls 3 [(0, .ref (ad 77)), (1, .int r)] := hl
  obtain ⟨⟨hs, hM⟩, ⟨dz, oz, hDz, hOz, hdo⟩, ⟨cf, mf, sf, hCf, hMf, hSf, hcs⟩, ⟨xf, hXf, hxx⟩, ⟨kyf, swf, hKy, hSw, hks⟩, ⟨vlf, hVl, hvl⟩, ⟨plf, hPl, hpl⟩⟩ := id hRM
  obtain ⟨⟨hn, ht, hcl, hqu, hen, hkp⟩, hle, ⟨hqb, hkb, hcb⟩, hvals, hclv, hptl, ⟨hz1, hz2, hz3⟩⟩ := id hok
  refine lv_iload_n hx hb dX5_random_0 rfl (lv_at hl 1 rfl) ?_
  refine lv_if_lt (tgt := 23) hx hb dX5_random_1 (by decide) (fun q1 => ?_) (fun q1 => absurd hr0 q1)
  refine lv_iconst (v := nI 0) hx hb dX5_random_23 (by decide) ?_
  refine lv_istore_n (lv' := [(2, .int (nI 0)), (0, .ref (ad 77)), (1, .int r)]) hx hb dX5_random_24 rfl hl (by decide) rfl (fun ls hl => ?_)
  refine lv_aload_n hx hb dX5_random_25 rfl (lv_at hl 1 rfl) ?_
  refine lv_iload_n hx hb dX5_random_26 rfl (lv_at hl 0 rfl) ?_
  refine lv_if_ne (tgt := 34) hx hb dX5_random_27 (by decide) (fun q_1 => absurd (by decide) q_1) (fun q_1 => ?_)
  refine lv_iconst (v := nI 1) hx hb dX5_random_30 (by decide) ?_
  refine lv_goto (tgt := 46) hx hb dX5_random_31 (by decide) ?_
  refine x_callW1 (As := [.int (nI 1)]) (rest := []) hC vf_X5_64 hw hA (by decide) hM rfl rfl (k5_refuses1 l _ _ _ _ _ _ _ _ hM) ⟨rfl, rfl, Nat.le_of_ble_eq_true rfl, Nat.le_of_ble_eq_true rfl⟩ hl.1 (Nat.le_of_ble_eq_true rfl) dX5_random_46 ⟨Nat.zero_le _, Nat.zero_le _⟩ rfl (fun w_3 H locs hu_2 hw => ?_)
  have hc_4 : w_3 77 = .inr (4, [.int (nI 1), .int (nI n), .int (nI t), .int (nI cl), .ref (ad 78), .ref (ad 79), .ref (ad 80), .ref (ad 81), .ref (ad 82), .ref (ad 83), .int (nI qu), .ref (ad 84), .ref (ad 85), .ref (ad 86), .int (nI en), .int (nI kp), .ref (ad 87), .long hs]) := by rw [hu_2]; exact va_up_self _ _ _
  have hc_5 : w_3 78 = .inl (cZ, 17, .inl dz) := by rw [hu_2, va_up_ne _ _ (by decide)]; exact hDz
  have hc_6 : w_3 79 = .inl (cZ, 17, .inl oz) := by rw [hu_2, va_up_ne _ _ (by decide)]; exact hOz
  have hc_7 : w_3 80 = .inl (cJ, 289, .inr (.inl cf)) := by rw [hu_2, va_up_ne _ _ (by decide)]; exact hCf
  have hc_8 : w_3 81 = .inl (cJ, 289, .inr (.inl mf)) := by rw [hu_2, va_up_ne _ _ (by decide)]; exact hMf
  have hc_9 : w_3 82 = .inl (cJ, 289, .inr (.inl sf)) := by rw [hu_2, va_up_ne _ _ (by decide)]; exact hSf
  have hc_10 : w_3 83 = .inl (cZ, 289, .inl xf) := by rw [hu_2, va_up_ne _ _ (by decide)]; exact hXf
  have hc_11 : w_3 84 = .inl (cJ, 17, .inr (.inl kyf)) := by rw [hu_2, va_up_ne _ _ (by decide)]; exact hKy
  have hc_12 : w_3 85 = .inl (cJ, 17, .inr (.inl swf)) := by rw [hu_2, va_up_ne _ _ (by decide)]; exact hSw
  have hc_13 : w_3 86 = .inl (cJ, 301, .inr (.inl vlf)) := by rw [hu_2, va_up_ne _ _ (by decide)]; exact hVl
  have hc_14 : w_3 87 = .inl (cJ, 17, .inr (.inl plf)) := by rw [hu_2, va_up_ne _ _ (by decide)]; exact hPl
  refine lv_if_eq (tgt := 54) hx hb dX5_random_49 (by decide) (fun q_15 => absurd q_15 (by decide)) (fun q_15 => ?_)
  refine lv_lconst (v := lN 0) hx hb dX5_random_52 (by decide) ?_
  have hfr : ∀ z, z ≠ 77 → w_3 z = w z := fun z hhfr0 => by rw [hu_2, va_up_ne _ _ hhfr0]
  exact x_wretL hx hb hr hlocks hw ⟨fun z hz => hfr z (by omega), RM.set77 hRM hfr hc_4⟩ dX5_random_53
set_option maxHeartbeats 4000000 in
set_option maxRecDepth 100000 in
theorem m_randomC (l : Launch) {D : va_G} {cI cJ cZ cD : ClassId} {ad : Nat → Nat} {w : Nat → va_E} {sz : Nat} (n t cl qu en kp : Nat) (dl ou cp ks pt : Nat → Nat) (co sh : Nat → Nat → Nat) (vs : Nat → Int64) (cd : Int32) (hok : OkS n t cl qu en kp dl ou cp ks pt co sh) (hRM : RM ad cJ cZ w cd n t cl qu en kp dl ou cp ks pt co sh vs) (r : Int32) (hr0 : ¬ r < 0) (hcl0 : cl = 0)  : MW l yX5_random (.code yX5_random cX5_random 3 (some .long)) ({ frames := 1, cells := 0, slots := 0, locals := 30 }) [.ref (ad 77), .int r] D (tyL cI cJ cZ cD) ad 89 w sz (some (.long (lN 0))) (fun u => (∀ z, z < 77 ∨ 87 < z → u z = w z) ∧ RM ad cJ cZ u (nI 2) n t 0 qu en kp dl ou cp ks pt co sh vs) := by
  refine MW.of (by decide) (Nat.le_of_ble_eq_true rfl) ?_
  intro p e s m below meth c ls hC hr hlocks hl hw
  obtain ⟨hx, hb, hml, hown, hts⟩ := id hC
  have hA : ∀ q, s.heap.size ≤ q → xA ad 89 s.heap.size q := fun q h => Or.inr h
  have hl : lv_has ls 3 [(0, .ref (ad 77)), (1, .int r)] := hl
  obtain ⟨⟨hs, hM⟩, ⟨dz, oz, hDz, hOz, hdo⟩, ⟨cf, mf, sf, hCf, hMf, hSf, hcs⟩, ⟨xf, hXf, hxx⟩, ⟨kyf, swf, hKy, hSw, hks⟩, ⟨vlf, hVl, hvl⟩, ⟨plf, hPl, hpl⟩⟩ := id hRM
  obtain ⟨⟨hn, ht, hcl, hqu, hen, hkp⟩, hle, ⟨hqb, hkb, hcb⟩, hvals, hclv, hptl, ⟨hz1, hz2, hz3⟩⟩ := id hok
  subst hcl0
  refine lv_iload_n hx hb dX5_random_0 rfl (lv_at hl 1 rfl) ?_
  refine lv_if_lt (tgt := 23) hx hb dX5_random_1 (by decide) (fun q1 => absurd q1 hr0) (fun q1 => ?_)
  refine lv_aload_n hx hb dX5_random_4 rfl (lv_at hl 0 rfl) ?_
  refine gf_X5_71 hx hb hts hown hw (by decide) hM rfl dX5_random_5 ?_
  refine lv_if_eq (tgt := 19) hx hb dX5_random_8 (by decide) (fun q_1 => ?_) (fun q_1 => absurd (by decide) q_1)
  refine lv_iconst (v := nI 1) hx hb dX5_random_19 (by decide) ?_
  refine lv_goto (tgt := 24) hx hb dX5_random_20 (by decide) ?_
  refine lv_istore_n (lv' := [(2, .int (nI 1)), (0, .ref (ad 77)), (1, .int r)]) hx hb dX5_random_24 rfl hl (by decide) rfl (fun ls hl => ?_)
  refine lv_aload_n hx hb dX5_random_25 rfl (lv_at hl 1 rfl) ?_
  refine lv_iload_n hx hb dX5_random_26 rfl (lv_at hl 0 rfl) ?_
  refine lv_if_ne (tgt := 34) hx hb dX5_random_27 (by decide) (fun q_2 => ?_) (fun q_2 => absurd q_2 (by decide))
  refine lv_aload_n hx hb dX5_random_34 rfl (lv_at hl 1 rfl) ?_
  refine gf_X5_71 hx hb hts hown hw (by decide) hM rfl dX5_random_35 ?_
  refine lv_if_ne (tgt := 45) hx hb dX5_random_38 (by decide) (fun q_3 => absurd (by decide) q_3) (fun q_3 => ?_)
  refine lv_iconst (v := nI 2) hx hb dX5_random_41 (by decide) ?_
  refine lv_goto (tgt := 46) hx hb dX5_random_42 (by decide) ?_
  refine x_callW1 (As := [.int (nI 2)]) (rest := []) hC vf_X5_64 hw hA (by decide) hM rfl rfl (k5_refuses2 l _ _ _ _ _ _ _ _ hM) ⟨rfl, rfl, Nat.le_of_ble_eq_true rfl, Nat.le_of_ble_eq_true rfl⟩ hl.1 (Nat.le_of_ble_eq_true rfl) dX5_random_46 ⟨Nat.zero_le _, Nat.zero_le _⟩ rfl (fun w_5 H locs hu_4 hw => ?_)
  have hc_6 : w_5 77 = .inr (4, [.int (nI 2), .int (nI n), .int (nI t), .int (nI 0), .ref (ad 78), .ref (ad 79), .ref (ad 80), .ref (ad 81), .ref (ad 82), .ref (ad 83), .int (nI qu), .ref (ad 84), .ref (ad 85), .ref (ad 86), .int (nI en), .int (nI kp), .ref (ad 87), .long hs]) := by rw [hu_4]; exact va_up_self _ _ _
  have hc_7 : w_5 78 = .inl (cZ, 17, .inl dz) := by rw [hu_4, va_up_ne _ _ (by decide)]; exact hDz
  have hc_8 : w_5 79 = .inl (cZ, 17, .inl oz) := by rw [hu_4, va_up_ne _ _ (by decide)]; exact hOz
  have hc_9 : w_5 80 = .inl (cJ, 289, .inr (.inl cf)) := by rw [hu_4, va_up_ne _ _ (by decide)]; exact hCf
  have hc_10 : w_5 81 = .inl (cJ, 289, .inr (.inl mf)) := by rw [hu_4, va_up_ne _ _ (by decide)]; exact hMf
  have hc_11 : w_5 82 = .inl (cJ, 289, .inr (.inl sf)) := by rw [hu_4, va_up_ne _ _ (by decide)]; exact hSf
  have hc_12 : w_5 83 = .inl (cZ, 289, .inl xf) := by rw [hu_4, va_up_ne _ _ (by decide)]; exact hXf
  have hc_13 : w_5 84 = .inl (cJ, 17, .inr (.inl kyf)) := by rw [hu_4, va_up_ne _ _ (by decide)]; exact hKy
  have hc_14 : w_5 85 = .inl (cJ, 17, .inr (.inl swf)) := by rw [hu_4, va_up_ne _ _ (by decide)]; exact hSw
  have hc_15 : w_5 86 = .inl (cJ, 301, .inr (.inl vlf)) := by rw [hu_4, va_up_ne _ _ (by decide)]; exact hVl
  have hc_16 : w_5 87 = .inl (cJ, 17, .inr (.inl plf)) := by rw [hu_4, va_up_ne _ _ (by decide)]; exact hPl
  refine lv_if_eq (tgt := 54) hx hb dX5_random_49 (by decide) (fun q_17 => absurd q_17 (by decide)) (fun q_17 => ?_)
  refine lv_lconst (v := lN 0) hx hb dX5_random_52 (by decide) ?_
  have hfr : ∀ z, z ≠ 77 → w_5 z = w z := fun z hhfr0 => by rw [hu_4, va_up_ne _ _ hhfr0]
  exact x_wretL hx hb hr hlocks hw ⟨fun z hz => hfr z (by omega), RM.set77 hRM hfr hc_6⟩ dX5_random_53
set_option maxHeartbeats 4000000 in
set_option maxRecDepth 100000 in
theorem m_randomA (l : Launch) {D : va_G} {cI cJ cZ cD : ClassId} {ad : Nat → Nat} {w : Nat → va_E} {sz : Nat} (n t cl qu en kp : Nat) (dl ou cp ks pt : Nat → Nat) (co sh : Nat → Nat → Nat) (vs : Nat → Int64) (cd : Int32) (hok : OkS n t cl qu en kp dl ou cp ks pt co sh) (hRM : RM ad cJ cZ w cd n t cl qu en kp dl ou cp ks pt co sh vs) (r : Int32) (hr0 : ¬ r < 0) (hr1 : ¬ r ≤ nI en) (hcl0 : cl = 1)  : MW l yX5_random (.code yX5_random cX5_random 3 (some .long)) ({ frames := 1, cells := 0, slots := 0, locals := 30 }) [.ref (ad 77), .int r] D (tyL cI cJ cZ cD) ad 89 w sz (some (.long (lN 0))) (fun u => (∀ z, z < 77 ∨ 87 < z → u z = w z) ∧ RM ad cJ cZ u (nI 1) n t 1 qu en kp dl ou cp ks pt co sh vs) := by
  refine MW.of (by decide) (Nat.le_of_ble_eq_true rfl) ?_
  intro p e s m below meth c ls hC hr hlocks hl hw
  obtain ⟨hx, hb, hml, hown, hts⟩ := id hC
  have hA : ∀ q, s.heap.size ≤ q → xA ad 89 s.heap.size q := fun q h => Or.inr h
  have hl : lv_has ls 3 [(0, .ref (ad 77)), (1, .int r)] := hl
  obtain ⟨⟨hs, hM⟩, ⟨dz, oz, hDz, hOz, hdo⟩, ⟨cf, mf, sf, hCf, hMf, hSf, hcs⟩, ⟨xf, hXf, hxx⟩, ⟨kyf, swf, hKy, hSw, hks⟩, ⟨vlf, hVl, hvl⟩, ⟨plf, hPl, hpl⟩⟩ := id hRM
  obtain ⟨⟨hn, ht, hcl, hqu, hen, hkp⟩, hle, ⟨hqb, hkb, hcb⟩, hvals, hclv, hptl, ⟨hz1, hz2, hz3⟩⟩ := id hok
  subst hcl0
  refine lv_iload_n hx hb dX5_random_0 rfl (lv_at hl 1 rfl) ?_
  refine lv_if_lt (tgt := 23) hx hb dX5_random_1 (by decide) (fun q1 => absurd q1 hr0) (fun q1 => ?_)
  refine lv_aload_n hx hb dX5_random_4 rfl (lv_at hl 0 rfl) ?_
  refine gf_X5_71 hx hb hts hown hw (by decide) hM rfl dX5_random_5 ?_
  refine lv_if_eq (tgt := 19) hx hb dX5_random_8 (by decide) (fun q_1 => absurd q_1 (by decide)) (fun q_1 => ?_)
  refine lv_iload_n hx hb dX5_random_11 rfl (lv_at hl 1 rfl) ?_
  refine lv_aload_n hx hb dX5_random_12 rfl (lv_at hl 0 rfl) ?_
  refine gf_X5_78 hx hb hts hown hw (by decide) hM rfl dX5_random_13 ?_
  refine lv_icmp_gt (tgt := 23) hx hb dX5_random_16 (by decide) (fun q2 => ?_) (fun q2 => absurd (nlt_of hr1) q2)
  refine lv_iconst (v := nI 0) hx hb dX5_random_23 (by decide) ?_
  refine lv_istore_n (lv' := [(2, .int (nI 0)), (0, .ref (ad 77)), (1, .int r)]) hx hb dX5_random_24 rfl hl (by decide) rfl (fun ls hl => ?_)
  refine lv_aload_n hx hb dX5_random_25 rfl (lv_at hl 1 rfl) ?_
  refine lv_iload_n hx hb dX5_random_26 rfl (lv_at hl 0 rfl) ?_
  refine lv_if_ne (tgt := 34) hx hb dX5_random_27 (by decide) (fun q_2 => absurd (by decide) q_2) (fun q_2 => ?_)
  refine lv_iconst (v := nI 1) hx hb dX5_random_30 (by decide) ?_
  refine lv_goto (tgt := 46) hx hb dX5_random_31 (by decide) ?_
  refine x_callW1 (As := [.int (nI 1)]) (rest := []) hC vf_X5_64 hw hA (by decide) hM rfl rfl (k5_refuses1 l _ _ _ _ _ _ _ _ hM) ⟨rfl, rfl, Nat.le_of_ble_eq_true rfl, Nat.le_of_ble_eq_true rfl⟩ hl.1 (Nat.le_of_ble_eq_true rfl) dX5_random_46 ⟨Nat.zero_le _, Nat.zero_le _⟩ rfl (fun w_4 H locs hu_3 hw => ?_)
  have hc_5 : w_4 77 = .inr (4, [.int (nI 1), .int (nI n), .int (nI t), .int (nI 1), .ref (ad 78), .ref (ad 79), .ref (ad 80), .ref (ad 81), .ref (ad 82), .ref (ad 83), .int (nI qu), .ref (ad 84), .ref (ad 85), .ref (ad 86), .int (nI en), .int (nI kp), .ref (ad 87), .long hs]) := by rw [hu_3]; exact va_up_self _ _ _
  have hc_6 : w_4 78 = .inl (cZ, 17, .inl dz) := by rw [hu_3, va_up_ne _ _ (by decide)]; exact hDz
  have hc_7 : w_4 79 = .inl (cZ, 17, .inl oz) := by rw [hu_3, va_up_ne _ _ (by decide)]; exact hOz
  have hc_8 : w_4 80 = .inl (cJ, 289, .inr (.inl cf)) := by rw [hu_3, va_up_ne _ _ (by decide)]; exact hCf
  have hc_9 : w_4 81 = .inl (cJ, 289, .inr (.inl mf)) := by rw [hu_3, va_up_ne _ _ (by decide)]; exact hMf
  have hc_10 : w_4 82 = .inl (cJ, 289, .inr (.inl sf)) := by rw [hu_3, va_up_ne _ _ (by decide)]; exact hSf
  have hc_11 : w_4 83 = .inl (cZ, 289, .inl xf) := by rw [hu_3, va_up_ne _ _ (by decide)]; exact hXf
  have hc_12 : w_4 84 = .inl (cJ, 17, .inr (.inl kyf)) := by rw [hu_3, va_up_ne _ _ (by decide)]; exact hKy
  have hc_13 : w_4 85 = .inl (cJ, 17, .inr (.inl swf)) := by rw [hu_3, va_up_ne _ _ (by decide)]; exact hSw
  have hc_14 : w_4 86 = .inl (cJ, 301, .inr (.inl vlf)) := by rw [hu_3, va_up_ne _ _ (by decide)]; exact hVl
  have hc_15 : w_4 87 = .inl (cJ, 17, .inr (.inl plf)) := by rw [hu_3, va_up_ne _ _ (by decide)]; exact hPl
  refine lv_if_eq (tgt := 54) hx hb dX5_random_49 (by decide) (fun q_16 => absurd q_16 (by decide)) (fun q_16 => ?_)
  refine lv_lconst (v := lN 0) hx hb dX5_random_52 (by decide) ?_
  have hfr : ∀ z, z ≠ 77 → w_4 z = w z := fun z hhfr0 => by rw [hu_3, va_up_ne _ _ hhfr0]
  exact x_wretL hx hb hr hlocks hw ⟨fun z hz => hfr z (by omega), RM.set77 hRM hfr hc_5⟩ dX5_random_53
set_option maxHeartbeats 4000000 in
set_option maxRecDepth 100000 in
theorem k5_about_loop {l : Launch} {p : Program} {e : Env} {s : State} {m : MethodId} {args : Array Value} {below : List Frame} {meth : Method} {c : Code} {Q : State → Prop} {D : va_G} {cI cJ cZ cD : ClassId} {ad : Nat → Nat} {A : Nat → Prop} {H0 : Heap} {w : Nat → va_E} (hC : CallFix p m c cX5_about 4 s args wsL_law RX5) (hA : ∀ q, H0.size ≤ q → A q) (cd : Int32) (n t cl qu en kp : Nat) (hs : Int64) (dz : Nat → Int32) (oz : Nat → Int32) (hn : n ≤ 16) (hqu : qu < 2 ^ 17) (j9 : Nat) (hj9 : j9 ≤ 7) (dl ou : Nat → Nat) (hle : ∀ i, dl i ≤ 1 ∧ ou i ≤ 1) (hdo : ∀ i, i < 17 → dz i = nI (dl i) ∧ oz i = nI (ou i)) (hM : w 77 = .inr (4, [.int cd, .int (nI n), .int (nI t), .int (nI cl), .ref (ad 78), .ref (ad 79), .ref (ad 80), .ref (ad 81), .ref (ad 82), .ref (ad 83), .int (nI qu), .ref (ad 84), .ref (ad 85), .ref (ad 86), .int (nI en), .int (nI kp), .ref (ad 87), .long hs])) (hDz : w 78 = .inl (cZ, 17, .inl dz)) (hOz : w 79 = .inl (cZ, 17, .inl oz))
    (kx : ∀  (ls : Array Slot) (H : Heap) (locs : List Loc),  WW D vwCl (tyL cI cJ cZ cD) A H0 ad 89 w s H locs → lv_has ls 4 [(0, .ref (ad 77)), (1, .int (nI j9)), (2, .int (nI (cnt (abF dl ou qu j9) n)))] → W p l e ({ frames := 1, cells := 0, slots := 0, locals := 32 }) s m args below meth c H locs 0 0 Q (F0 m 95 ls [])) :
    ∀ (j q : Nat)  (ls : Array Slot) (H : Heap) (locs : List Loc), q + j = n →  WW D vwCl (tyL cI cJ cZ cD) A H0 ad 89 w s H locs → lv_has ls 4 [(0, .ref (ad 77)), (1, .int (nI j9)), (2, .int (nI (cnt (abF dl ou qu j9) q))), (3, .int (nI (q + 1)))] → W p l e ({ frames := 1, cells := 0, slots := 0, locals := 32 }) s m args below meth c H locs 0 0 Q (F0 m 28 ls []) := by
  obtain ⟨hx, hb, hml, hown, hts⟩ := id hC
  intro j
  induction j with
  | zero =>
    intro q  ls H locs hq  hw hl
    obtain rfl : n = q := by omega
    have hl : lv_has ls 4 [(0, .ref (ad 77)), (1, .int (nI j9)), (2, .int (nI (cnt (abF dl ou qu j9) n))), (3, .int (nI (n + 1)))] := hl
    refine lv_iload_n hx hb dX5_about_28 rfl (lv_at hl 3 rfl) ?_
    refine lv_aload_n hx hb dX5_about_29 rfl (lv_at hl 0 rfl) ?_
    refine gf_X5_59 hx hb hts hown hw (by decide) hM rfl dX5_about_30 ?_
    refine lv_icmp_gt (tgt := 95) hx hb dX5_about_33 (by decide) (fun hc => ?_) (fun hc => absurd (nI_lt (by omega) (by omega)) hc)
    exact kx  ls H locs  hw (lv_sub hl [0, 1, 2] rfl)
  | succ j ih =>
    intro q  ls H locs hq  hw hl
    refine lv_iload_n hx hb dX5_about_28 rfl (lv_at hl 3 rfl) ?_
    refine lv_aload_n hx hb dX5_about_29 rfl (lv_at hl 0 rfl) ?_
    refine gf_X5_59 hx hb hts hown hw (by decide) hM rfl dX5_about_30 ?_
    refine lv_icmp_gt (tgt := 95) hx hb dX5_about_33 (by decide) (fun hc => absurd hc (nI_nlt (by omega) (by omega))) (fun hc => ?_)
    obtain ⟨g1, g2⟩ := hle (q + 1)
    have htb := tb_lt qu (q + 1)
    have hab : ∀ k, abF dl ou qu j9 k ≤ 1 := fun k => by obtain ⟨g3, g4⟩ := hle k; have := tb_lt qu k; (unfold abF; repeat' split) <;> omega
    have hcl := cnt_le hab q
    refine lv_iload_n hx hb dX5_about_36 rfl (lv_at hl 2 rfl) ?_
    refine lv_iload_n hx hb dX5_about_37 rfl (lv_at hl 1 rfl) ?_
    refine lv_iconst (v := nI 2) hx hb dX5_about_38 (by decide) ?_
    refine lv_icmp_ne (tgt := 51) hx hb dX5_about_39 (by decide) (fun h2 => ?_) (fun h2 => ?_)
    · rw [nI_eq (by omega) (by omega)] at h2
      refine lv_iload_n hx hb dX5_about_51 rfl (lv_at hl 1 rfl) ?_
      refine lv_iconst (v := nI 4) hx hb dX5_about_52 (by decide) ?_
      refine lv_icmp_ne (tgt := 65) hx hb dX5_about_53 (by decide) (fun h4 => ?_) (fun h4 => ?_)
      · rw [nI_eq (by omega) (by omega)] at h4
        refine lv_iload_n hx hb dX5_about_65 rfl (lv_at hl 1 rfl) ?_
        refine lv_iconst (v := nI 5) hx hb dX5_about_66 (by decide) ?_
        refine lv_icmp_ne (tgt := 86) hx hb dX5_about_67 (by decide) (fun h5 => ?_) (fun h5 => ?_)
        · rw [nI_eq (by omega) (by omega)] at h5
          refine lv_iconst (v := nI 0) hx hb dX5_about_86 (by decide) ?_
          refine t_iadd hx hb dX5_about_87 (v := nI (cnt (abF dl ou qu j9) q + 0)) (nI_add _ _) ?_
          refine lv_istore_n (lv' := [(2, .int (nI (cnt (abF dl ou qu j9) q + 0))), (0, .ref (ad 77)), (1, .int (nI j9)), (3, .int (nI (q + 1)))]) hx hb dX5_about_88 rfl hl (by decide) rfl (fun ls hl => ?_)
          refine lv_iinc (v := nI (q + 1 + 1)) (lv' := [(3, .int (nI (q + 1 + 1))), (2, .int (nI (cnt (abF dl ou qu j9) q + 0))), (0, .ref (ad 77)), (1, .int (nI j9))]) hx hb dX5_about_89 hl (k := 3) rfl (nI_1 (q + 1)) (by decide) rfl (fun ls hl => ?_)
          refine lv_goto (tgt := 28) hx hb dX5_about_92 (by decide) ?_
          refine ih (q + 1)  ls H locs (by omega)  hw (lv_sub hl [2, 3, 1, 0] (by rw [show cnt (abF dl ou qu j9) (q + 1) = cnt (abF dl ou qu j9) q + 0 from by show _ + abF dl ou qu j9 (q + 1) = _; rw [show abF dl ou qu j9 (q + 1) = 0 by (unfold abF; repeat' split) <;> omega]]; rfl))
        · rw [nI_eq (by omega) (by omega)] at h5
          refine lv_aload_n hx hb dX5_about_70 rfl (lv_at hl 0 rfl) ?_
          refine gf_X5_75 hx hb hts hown hw (by decide) hM rfl dX5_about_71 ?_
          refine lv_iload_n hx hb dX5_about_74 rfl (lv_at hl 3 rfl) ?_
          refine lv_ishr hx hb dX5_about_75 ?_
          refine lv_iconst (v := nI 1) hx hb dX5_about_76 (by decide) ?_
          refine lv_iand hx hb dX5_about_77 ?_
          rw [hb_val (by omega) (by omega)]
          refine lv_iconst (v := nI 1) hx hb dX5_about_78 (by decide) ?_
          refine lv_icmp_ne (tgt := 86) hx hb dX5_about_79 (by decide) (fun h6 => ?_) (fun h6 => ?_)
          · rw [nI_eq (by omega) (by omega)] at h6
            refine lv_iconst (v := nI 0) hx hb dX5_about_86 (by decide) ?_
            refine t_iadd hx hb dX5_about_87 (v := nI (cnt (abF dl ou qu j9) q + 0)) (nI_add _ _) ?_
            refine lv_istore_n (lv' := [(2, .int (nI (cnt (abF dl ou qu j9) q + 0))), (0, .ref (ad 77)), (1, .int (nI j9)), (3, .int (nI (q + 1)))]) hx hb dX5_about_88 rfl hl (by decide) rfl (fun ls hl => ?_)
            refine lv_iinc (v := nI (q + 1 + 1)) (lv' := [(3, .int (nI (q + 1 + 1))), (2, .int (nI (cnt (abF dl ou qu j9) q + 0))), (0, .ref (ad 77)), (1, .int (nI j9))]) hx hb dX5_about_89 hl (k := 3) rfl (nI_1 (q + 1)) (by decide) rfl (fun ls hl => ?_)
            refine lv_goto (tgt := 28) hx hb dX5_about_92 (by decide) ?_
            refine ih (q + 1)  ls H locs (by omega)  hw (lv_sub hl [2, 3, 1, 0] (by rw [show cnt (abF dl ou qu j9) (q + 1) = cnt (abF dl ou qu j9) q + 0 from by show _ + abF dl ou qu j9 (q + 1) = _; rw [show abF dl ou qu j9 (q + 1) = 0 by (unfold abF; repeat' split) <;> omega]]; rfl))
          · rw [nI_eq (by omega) (by omega)] at h6
            refine lv_iconst (v := nI 1) hx hb dX5_about_82 (by decide) ?_
            refine lv_goto (tgt := 87) hx hb dX5_about_83 (by decide) ?_
            refine t_iadd hx hb dX5_about_87 (v := nI (cnt (abF dl ou qu j9) q + 1)) (nI_add _ _) ?_
            refine lv_istore_n (lv' := [(2, .int (nI (cnt (abF dl ou qu j9) q + 1))), (0, .ref (ad 77)), (1, .int (nI j9)), (3, .int (nI (q + 1)))]) hx hb dX5_about_88 rfl hl (by decide) rfl (fun ls hl => ?_)
            refine lv_iinc (v := nI (q + 1 + 1)) (lv' := [(3, .int (nI (q + 1 + 1))), (2, .int (nI (cnt (abF dl ou qu j9) q + 1))), (0, .ref (ad 77)), (1, .int (nI j9))]) hx hb dX5_about_89 hl (k := 3) rfl (nI_1 (q + 1)) (by decide) rfl (fun ls hl => ?_)
            refine lv_goto (tgt := 28) hx hb dX5_about_92 (by decide) ?_
            refine ih (q + 1)  ls H locs (by omega)  hw (lv_sub hl [2, 3, 1, 0] (by rw [show cnt (abF dl ou qu j9) (q + 1) = cnt (abF dl ou qu j9) q + 1 from by show _ + abF dl ou qu j9 (q + 1) = _; rw [show abF dl ou qu j9 (q + 1) = 1 by (unfold abF; repeat' split) <;> omega]]; rfl))
      · rw [nI_eq (by omega) (by omega)] at h4
        refine lv_aload_n hx hb dX5_about_56 rfl (lv_at hl 0 rfl) ?_
        refine gf_X5_13 hx hb hts hown hw (by decide) hM rfl dX5_about_57 ?_
        refine lv_iload_n hx hb dX5_about_60 rfl (lv_at hl 3 rfl) ?_
        refine x_zald hx hb hw (by decide) 2 hOz rfl (j := q + 1) (by omega) (by decide) (hdo (q + 1) (by omega)).2 dX5_about_61 ?_
        refine lv_if_ne (tgt := 82) hx hb dX5_about_62 (by decide) (fun h7 => ?_) (fun h7 => ?_)
        · rw [nI_z (by omega)] at h7
          refine lv_iconst (v := nI 1) hx hb dX5_about_82 (by decide) ?_
          refine lv_goto (tgt := 87) hx hb dX5_about_83 (by decide) ?_
          refine t_iadd hx hb dX5_about_87 (v := nI (cnt (abF dl ou qu j9) q + 1)) (nI_add _ _) ?_
          refine lv_istore_n (lv' := [(2, .int (nI (cnt (abF dl ou qu j9) q + 1))), (0, .ref (ad 77)), (1, .int (nI j9)), (3, .int (nI (q + 1)))]) hx hb dX5_about_88 rfl hl (by decide) rfl (fun ls hl => ?_)
          refine lv_iinc (v := nI (q + 1 + 1)) (lv' := [(3, .int (nI (q + 1 + 1))), (2, .int (nI (cnt (abF dl ou qu j9) q + 1))), (0, .ref (ad 77)), (1, .int (nI j9))]) hx hb dX5_about_89 hl (k := 3) rfl (nI_1 (q + 1)) (by decide) rfl (fun ls hl => ?_)
          refine lv_goto (tgt := 28) hx hb dX5_about_92 (by decide) ?_
          refine ih (q + 1)  ls H locs (by omega)  hw (lv_sub hl [2, 3, 1, 0] (by rw [show cnt (abF dl ou qu j9) (q + 1) = cnt (abF dl ou qu j9) q + 1 from by show _ + abF dl ou qu j9 (q + 1) = _; rw [show abF dl ou qu j9 (q + 1) = 1 by (unfold abF; repeat' split) <;> omega]]; rfl))
        · rw [nI_z (by omega)] at h7
          refine lv_iload_n hx hb dX5_about_65 rfl (lv_at hl 1 rfl) ?_
          refine lv_iconst (v := nI 5) hx hb dX5_about_66 (by decide) ?_
          refine lv_icmp_ne (tgt := 86) hx hb dX5_about_67 (by decide) (fun h5 => ?_) (fun h5 => ?_)
          · rw [nI_eq (by omega) (by omega)] at h5
            refine lv_iconst (v := nI 0) hx hb dX5_about_86 (by decide) ?_
            refine t_iadd hx hb dX5_about_87 (v := nI (cnt (abF dl ou qu j9) q + 0)) (nI_add _ _) ?_
            refine lv_istore_n (lv' := [(2, .int (nI (cnt (abF dl ou qu j9) q + 0))), (0, .ref (ad 77)), (1, .int (nI j9)), (3, .int (nI (q + 1)))]) hx hb dX5_about_88 rfl hl (by decide) rfl (fun ls hl => ?_)
            refine lv_iinc (v := nI (q + 1 + 1)) (lv' := [(3, .int (nI (q + 1 + 1))), (2, .int (nI (cnt (abF dl ou qu j9) q + 0))), (0, .ref (ad 77)), (1, .int (nI j9))]) hx hb dX5_about_89 hl (k := 3) rfl (nI_1 (q + 1)) (by decide) rfl (fun ls hl => ?_)
            refine lv_goto (tgt := 28) hx hb dX5_about_92 (by decide) ?_
            refine ih (q + 1)  ls H locs (by omega)  hw (lv_sub hl [2, 3, 1, 0] (by rw [show cnt (abF dl ou qu j9) (q + 1) = cnt (abF dl ou qu j9) q + 0 from by show _ + abF dl ou qu j9 (q + 1) = _; rw [show abF dl ou qu j9 (q + 1) = 0 by (unfold abF; repeat' split) <;> omega]]; rfl))
          · rw [nI_eq (by omega) (by omega)] at h5
            refine lv_aload_n hx hb dX5_about_70 rfl (lv_at hl 0 rfl) ?_
            refine gf_X5_75 hx hb hts hown hw (by decide) hM rfl dX5_about_71 ?_
            refine lv_iload_n hx hb dX5_about_74 rfl (lv_at hl 3 rfl) ?_
            refine lv_ishr hx hb dX5_about_75 ?_
            refine lv_iconst (v := nI 1) hx hb dX5_about_76 (by decide) ?_
            refine lv_iand hx hb dX5_about_77 ?_
            rw [hb_val (by omega) (by omega)]
            refine lv_iconst (v := nI 1) hx hb dX5_about_78 (by decide) ?_
            refine lv_icmp_ne (tgt := 86) hx hb dX5_about_79 (by decide) (fun h6 => ?_) (fun h6 => ?_)
            · rw [nI_eq (by omega) (by omega)] at h6
              refine lv_iconst (v := nI 0) hx hb dX5_about_86 (by decide) ?_
              refine t_iadd hx hb dX5_about_87 (v := nI (cnt (abF dl ou qu j9) q + 0)) (nI_add _ _) ?_
              refine lv_istore_n (lv' := [(2, .int (nI (cnt (abF dl ou qu j9) q + 0))), (0, .ref (ad 77)), (1, .int (nI j9)), (3, .int (nI (q + 1)))]) hx hb dX5_about_88 rfl hl (by decide) rfl (fun ls hl => ?_)
              refine lv_iinc (v := nI (q + 1 + 1)) (lv' := [(3, .int (nI (q + 1 + 1))), (2, .int (nI (cnt (abF dl ou qu j9) q + 0))), (0, .ref (ad 77)), (1, .int (nI j9))]) hx hb dX5_about_89 hl (k := 3) rfl (nI_1 (q + 1)) (by decide) rfl (fun ls hl => ?_)
              refine lv_goto (tgt := 28) hx hb dX5_about_92 (by decide) ?_
              refine ih (q + 1)  ls H locs (by omega)  hw (lv_sub hl [2, 3, 1, 0] (by rw [show cnt (abF dl ou qu j9) (q + 1) = cnt (abF dl ou qu j9) q + 0 from by show _ + abF dl ou qu j9 (q + 1) = _; rw [show abF dl ou qu j9 (q + 1) = 0 by (unfold abF; repeat' split) <;> omega]]; rfl))
            · rw [nI_eq (by omega) (by omega)] at h6
              refine lv_iconst (v := nI 1) hx hb dX5_about_82 (by decide) ?_
              refine lv_goto (tgt := 87) hx hb dX5_about_83 (by decide) ?_
              refine t_iadd hx hb dX5_about_87 (v := nI (cnt (abF dl ou qu j9) q + 1)) (nI_add _ _) ?_
              refine lv_istore_n (lv' := [(2, .int (nI (cnt (abF dl ou qu j9) q + 1))), (0, .ref (ad 77)), (1, .int (nI j9)), (3, .int (nI (q + 1)))]) hx hb dX5_about_88 rfl hl (by decide) rfl (fun ls hl => ?_)
              refine lv_iinc (v := nI (q + 1 + 1)) (lv' := [(3, .int (nI (q + 1 + 1))), (2, .int (nI (cnt (abF dl ou qu j9) q + 1))), (0, .ref (ad 77)), (1, .int (nI j9))]) hx hb dX5_about_89 hl (k := 3) rfl (nI_1 (q + 1)) (by decide) rfl (fun ls hl => ?_)
              refine lv_goto (tgt := 28) hx hb dX5_about_92 (by decide) ?_
              refine ih (q + 1)  ls H locs (by omega)  hw (lv_sub hl [2, 3, 1, 0] (by rw [show cnt (abF dl ou qu j9) (q + 1) = cnt (abF dl ou qu j9) q + 1 from by show _ + abF dl ou qu j9 (q + 1) = _; rw [show abF dl ou qu j9 (q + 1) = 1 by (unfold abF; repeat' split) <;> omega]]; rfl))
    · rw [nI_eq (by omega) (by omega)] at h2
      refine lv_aload_n hx hb dX5_about_42 rfl (lv_at hl 0 rfl) ?_
      refine gf_X5_7 hx hb hts hown hw (by decide) hM rfl dX5_about_43 ?_
      refine lv_iload_n hx hb dX5_about_46 rfl (lv_at hl 3 rfl) ?_
      refine x_zald hx hb hw (by decide) 2 hDz rfl (j := q + 1) (by omega) (by decide) (hdo (q + 1) (by omega)).1 dX5_about_47 ?_
      refine lv_if_ne (tgt := 82) hx hb dX5_about_48 (by decide) (fun h3 => ?_) (fun h3 => ?_)
      · rw [nI_z (by omega)] at h3
        refine lv_iconst (v := nI 1) hx hb dX5_about_82 (by decide) ?_
        refine lv_goto (tgt := 87) hx hb dX5_about_83 (by decide) ?_
        refine t_iadd hx hb dX5_about_87 (v := nI (cnt (abF dl ou qu j9) q + 1)) (nI_add _ _) ?_
        refine lv_istore_n (lv' := [(2, .int (nI (cnt (abF dl ou qu j9) q + 1))), (0, .ref (ad 77)), (1, .int (nI j9)), (3, .int (nI (q + 1)))]) hx hb dX5_about_88 rfl hl (by decide) rfl (fun ls hl => ?_)
        refine lv_iinc (v := nI (q + 1 + 1)) (lv' := [(3, .int (nI (q + 1 + 1))), (2, .int (nI (cnt (abF dl ou qu j9) q + 1))), (0, .ref (ad 77)), (1, .int (nI j9))]) hx hb dX5_about_89 hl (k := 3) rfl (nI_1 (q + 1)) (by decide) rfl (fun ls hl => ?_)
        refine lv_goto (tgt := 28) hx hb dX5_about_92 (by decide) ?_
        refine ih (q + 1)  ls H locs (by omega)  hw (lv_sub hl [2, 3, 1, 0] (by rw [show cnt (abF dl ou qu j9) (q + 1) = cnt (abF dl ou qu j9) q + 1 from by show _ + abF dl ou qu j9 (q + 1) = _; rw [show abF dl ou qu j9 (q + 1) = 1 by (unfold abF; repeat' split) <;> omega]]; rfl))
      · rw [nI_z (by omega)] at h3
        refine lv_iload_n hx hb dX5_about_51 rfl (lv_at hl 1 rfl) ?_
        refine lv_iconst (v := nI 4) hx hb dX5_about_52 (by decide) ?_
        refine lv_icmp_ne (tgt := 65) hx hb dX5_about_53 (by decide) (fun h4 => ?_) (fun h4 => ?_)
        · rw [nI_eq (by omega) (by omega)] at h4
          refine lv_iload_n hx hb dX5_about_65 rfl (lv_at hl 1 rfl) ?_
          refine lv_iconst (v := nI 5) hx hb dX5_about_66 (by decide) ?_
          refine lv_icmp_ne (tgt := 86) hx hb dX5_about_67 (by decide) (fun h5 => ?_) (fun h5 => ?_)
          · rw [nI_eq (by omega) (by omega)] at h5
            refine lv_iconst (v := nI 0) hx hb dX5_about_86 (by decide) ?_
            refine t_iadd hx hb dX5_about_87 (v := nI (cnt (abF dl ou qu j9) q + 0)) (nI_add _ _) ?_
            refine lv_istore_n (lv' := [(2, .int (nI (cnt (abF dl ou qu j9) q + 0))), (0, .ref (ad 77)), (1, .int (nI j9)), (3, .int (nI (q + 1)))]) hx hb dX5_about_88 rfl hl (by decide) rfl (fun ls hl => ?_)
            refine lv_iinc (v := nI (q + 1 + 1)) (lv' := [(3, .int (nI (q + 1 + 1))), (2, .int (nI (cnt (abF dl ou qu j9) q + 0))), (0, .ref (ad 77)), (1, .int (nI j9))]) hx hb dX5_about_89 hl (k := 3) rfl (nI_1 (q + 1)) (by decide) rfl (fun ls hl => ?_)
            refine lv_goto (tgt := 28) hx hb dX5_about_92 (by decide) ?_
            refine ih (q + 1)  ls H locs (by omega)  hw (lv_sub hl [2, 3, 1, 0] (by rw [show cnt (abF dl ou qu j9) (q + 1) = cnt (abF dl ou qu j9) q + 0 from by show _ + abF dl ou qu j9 (q + 1) = _; rw [show abF dl ou qu j9 (q + 1) = 0 by (unfold abF; repeat' split) <;> omega]]; rfl))
          · rw [nI_eq (by omega) (by omega)] at h5
            refine lv_aload_n hx hb dX5_about_70 rfl (lv_at hl 0 rfl) ?_
            refine gf_X5_75 hx hb hts hown hw (by decide) hM rfl dX5_about_71 ?_
            refine lv_iload_n hx hb dX5_about_74 rfl (lv_at hl 3 rfl) ?_
            refine lv_ishr hx hb dX5_about_75 ?_
            refine lv_iconst (v := nI 1) hx hb dX5_about_76 (by decide) ?_
            refine lv_iand hx hb dX5_about_77 ?_
            rw [hb_val (by omega) (by omega)]
            refine lv_iconst (v := nI 1) hx hb dX5_about_78 (by decide) ?_
            refine lv_icmp_ne (tgt := 86) hx hb dX5_about_79 (by decide) (fun h6 => ?_) (fun h6 => ?_)
            · rw [nI_eq (by omega) (by omega)] at h6
              refine lv_iconst (v := nI 0) hx hb dX5_about_86 (by decide) ?_
              refine t_iadd hx hb dX5_about_87 (v := nI (cnt (abF dl ou qu j9) q + 0)) (nI_add _ _) ?_
              refine lv_istore_n (lv' := [(2, .int (nI (cnt (abF dl ou qu j9) q + 0))), (0, .ref (ad 77)), (1, .int (nI j9)), (3, .int (nI (q + 1)))]) hx hb dX5_about_88 rfl hl (by decide) rfl (fun ls hl => ?_)
              refine lv_iinc (v := nI (q + 1 + 1)) (lv' := [(3, .int (nI (q + 1 + 1))), (2, .int (nI (cnt (abF dl ou qu j9) q + 0))), (0, .ref (ad 77)), (1, .int (nI j9))]) hx hb dX5_about_89 hl (k := 3) rfl (nI_1 (q + 1)) (by decide) rfl (fun ls hl => ?_)
              refine lv_goto (tgt := 28) hx hb dX5_about_92 (by decide) ?_
              refine ih (q + 1)  ls H locs (by omega)  hw (lv_sub hl [2, 3, 1, 0] (by rw [show cnt (abF dl ou qu j9) (q + 1) = cnt (abF dl ou qu j9) q + 0 from by show _ + abF dl ou qu j9 (q + 1) = _; rw [show abF dl ou qu j9 (q + 1) = 0 by (unfold abF; repeat' split) <;> omega]]; rfl))
            · rw [nI_eq (by omega) (by omega)] at h6
              refine lv_iconst (v := nI 1) hx hb dX5_about_82 (by decide) ?_
              refine lv_goto (tgt := 87) hx hb dX5_about_83 (by decide) ?_
              refine t_iadd hx hb dX5_about_87 (v := nI (cnt (abF dl ou qu j9) q + 1)) (nI_add _ _) ?_
              refine lv_istore_n (lv' := [(2, .int (nI (cnt (abF dl ou qu j9) q + 1))), (0, .ref (ad 77)), (1, .int (nI j9)), (3, .int (nI (q + 1)))]) hx hb dX5_about_88 rfl hl (by decide) rfl (fun ls hl => ?_)
              refine lv_iinc (v := nI (q + 1 + 1)) (lv' := [(3, .int (nI (q + 1 + 1))), (2, .int (nI (cnt (abF dl ou qu j9) q + 1))), (0, .ref (ad 77)), (1, .int (nI j9))]) hx hb dX5_about_89 hl (k := 3) rfl (nI_1 (q + 1)) (by decide) rfl (fun ls hl => ?_)
              refine lv_goto (tgt := 28) hx hb dX5_about_92 (by decide) ?_
              refine ih (q + 1)  ls H locs (by omega)  hw (lv_sub hl [2, 3, 1, 0] (by rw [show cnt (abF dl ou qu j9) (q + 1) = cnt (abF dl ou qu j9) q + 1 from by show _ + abF dl ou qu j9 (q + 1) = _; rw [show abF dl ou qu j9 (q + 1) = 1 by (unfold abF; repeat' split) <;> omega]]; rfl))
        · rw [nI_eq (by omega) (by omega)] at h4
          refine lv_aload_n hx hb dX5_about_56 rfl (lv_at hl 0 rfl) ?_
          refine gf_X5_13 hx hb hts hown hw (by decide) hM rfl dX5_about_57 ?_
          refine lv_iload_n hx hb dX5_about_60 rfl (lv_at hl 3 rfl) ?_
          refine x_zald hx hb hw (by decide) 2 hOz rfl (j := q + 1) (by omega) (by decide) (hdo (q + 1) (by omega)).2 dX5_about_61 ?_
          refine lv_if_ne (tgt := 82) hx hb dX5_about_62 (by decide) (fun h7 => ?_) (fun h7 => ?_)
          · rw [nI_z (by omega)] at h7
            refine lv_iconst (v := nI 1) hx hb dX5_about_82 (by decide) ?_
            refine lv_goto (tgt := 87) hx hb dX5_about_83 (by decide) ?_
            refine t_iadd hx hb dX5_about_87 (v := nI (cnt (abF dl ou qu j9) q + 1)) (nI_add _ _) ?_
            refine lv_istore_n (lv' := [(2, .int (nI (cnt (abF dl ou qu j9) q + 1))), (0, .ref (ad 77)), (1, .int (nI j9)), (3, .int (nI (q + 1)))]) hx hb dX5_about_88 rfl hl (by decide) rfl (fun ls hl => ?_)
            refine lv_iinc (v := nI (q + 1 + 1)) (lv' := [(3, .int (nI (q + 1 + 1))), (2, .int (nI (cnt (abF dl ou qu j9) q + 1))), (0, .ref (ad 77)), (1, .int (nI j9))]) hx hb dX5_about_89 hl (k := 3) rfl (nI_1 (q + 1)) (by decide) rfl (fun ls hl => ?_)
            refine lv_goto (tgt := 28) hx hb dX5_about_92 (by decide) ?_
            refine ih (q + 1)  ls H locs (by omega)  hw (lv_sub hl [2, 3, 1, 0] (by rw [show cnt (abF dl ou qu j9) (q + 1) = cnt (abF dl ou qu j9) q + 1 from by show _ + abF dl ou qu j9 (q + 1) = _; rw [show abF dl ou qu j9 (q + 1) = 1 by (unfold abF; repeat' split) <;> omega]]; rfl))
          · rw [nI_z (by omega)] at h7
            refine lv_iload_n hx hb dX5_about_65 rfl (lv_at hl 1 rfl) ?_
            refine lv_iconst (v := nI 5) hx hb dX5_about_66 (by decide) ?_
            refine lv_icmp_ne (tgt := 86) hx hb dX5_about_67 (by decide) (fun h5 => ?_) (fun h5 => ?_)
            · rw [nI_eq (by omega) (by omega)] at h5
              refine lv_iconst (v := nI 0) hx hb dX5_about_86 (by decide) ?_
              refine t_iadd hx hb dX5_about_87 (v := nI (cnt (abF dl ou qu j9) q + 0)) (nI_add _ _) ?_
              refine lv_istore_n (lv' := [(2, .int (nI (cnt (abF dl ou qu j9) q + 0))), (0, .ref (ad 77)), (1, .int (nI j9)), (3, .int (nI (q + 1)))]) hx hb dX5_about_88 rfl hl (by decide) rfl (fun ls hl => ?_)
              refine lv_iinc (v := nI (q + 1 + 1)) (lv' := [(3, .int (nI (q + 1 + 1))), (2, .int (nI (cnt (abF dl ou qu j9) q + 0))), (0, .ref (ad 77)), (1, .int (nI j9))]) hx hb dX5_about_89 hl (k := 3) rfl (nI_1 (q + 1)) (by decide) rfl (fun ls hl => ?_)
              refine lv_goto (tgt := 28) hx hb dX5_about_92 (by decide) ?_
              refine ih (q + 1)  ls H locs (by omega)  hw (lv_sub hl [2, 3, 1, 0] (by rw [show cnt (abF dl ou qu j9) (q + 1) = cnt (abF dl ou qu j9) q + 0 from by show _ + abF dl ou qu j9 (q + 1) = _; rw [show abF dl ou qu j9 (q + 1) = 0 by (unfold abF; repeat' split) <;> omega]]; rfl))
            · rw [nI_eq (by omega) (by omega)] at h5
              refine lv_aload_n hx hb dX5_about_70 rfl (lv_at hl 0 rfl) ?_
              refine gf_X5_75 hx hb hts hown hw (by decide) hM rfl dX5_about_71 ?_
              refine lv_iload_n hx hb dX5_about_74 rfl (lv_at hl 3 rfl) ?_
              refine lv_ishr hx hb dX5_about_75 ?_
              refine lv_iconst (v := nI 1) hx hb dX5_about_76 (by decide) ?_
              refine lv_iand hx hb dX5_about_77 ?_
              rw [hb_val (by omega) (by omega)]
              refine lv_iconst (v := nI 1) hx hb dX5_about_78 (by decide) ?_
              refine lv_icmp_ne (tgt := 86) hx hb dX5_about_79 (by decide) (fun h6 => ?_) (fun h6 => ?_)
              · rw [nI_eq (by omega) (by omega)] at h6
                refine lv_iconst (v := nI 0) hx hb dX5_about_86 (by decide) ?_
                refine t_iadd hx hb dX5_about_87 (v := nI (cnt (abF dl ou qu j9) q + 0)) (nI_add _ _) ?_
                refine lv_istore_n (lv' := [(2, .int (nI (cnt (abF dl ou qu j9) q + 0))), (0, .ref (ad 77)), (1, .int (nI j9)), (3, .int (nI (q + 1)))]) hx hb dX5_about_88 rfl hl (by decide) rfl (fun ls hl => ?_)
                refine lv_iinc (v := nI (q + 1 + 1)) (lv' := [(3, .int (nI (q + 1 + 1))), (2, .int (nI (cnt (abF dl ou qu j9) q + 0))), (0, .ref (ad 77)), (1, .int (nI j9))]) hx hb dX5_about_89 hl (k := 3) rfl (nI_1 (q + 1)) (by decide) rfl (fun ls hl => ?_)
                refine lv_goto (tgt := 28) hx hb dX5_about_92 (by decide) ?_
                refine ih (q + 1)  ls H locs (by omega)  hw (lv_sub hl [2, 3, 1, 0] (by rw [show cnt (abF dl ou qu j9) (q + 1) = cnt (abF dl ou qu j9) q + 0 from by show _ + abF dl ou qu j9 (q + 1) = _; rw [show abF dl ou qu j9 (q + 1) = 0 by (unfold abF; repeat' split) <;> omega]]; rfl))
              · rw [nI_eq (by omega) (by omega)] at h6
                refine lv_iconst (v := nI 1) hx hb dX5_about_82 (by decide) ?_
                refine lv_goto (tgt := 87) hx hb dX5_about_83 (by decide) ?_
                refine t_iadd hx hb dX5_about_87 (v := nI (cnt (abF dl ou qu j9) q + 1)) (nI_add _ _) ?_
                refine lv_istore_n (lv' := [(2, .int (nI (cnt (abF dl ou qu j9) q + 1))), (0, .ref (ad 77)), (1, .int (nI j9)), (3, .int (nI (q + 1)))]) hx hb dX5_about_88 rfl hl (by decide) rfl (fun ls hl => ?_)
                refine lv_iinc (v := nI (q + 1 + 1)) (lv' := [(3, .int (nI (q + 1 + 1))), (2, .int (nI (cnt (abF dl ou qu j9) q + 1))), (0, .ref (ad 77)), (1, .int (nI j9))]) hx hb dX5_about_89 hl (k := 3) rfl (nI_1 (q + 1)) (by decide) rfl (fun ls hl => ?_)
                refine lv_goto (tgt := 28) hx hb dX5_about_92 (by decide) ?_
                refine ih (q + 1)  ls H locs (by omega)  hw (lv_sub hl [2, 3, 1, 0] (by rw [show cnt (abF dl ou qu j9) (q + 1) = cnt (abF dl ou qu j9) q + 1 from by show _ + abF dl ou qu j9 (q + 1) = _; rw [show abF dl ou qu j9 (q + 1) = 1 by (unfold abF; repeat' split) <;> omega]]; rfl))
set_option maxHeartbeats 4000000 in
set_option maxRecDepth 100000 in
theorem m_about0 (l : Launch) {D : va_G} {cI cJ cZ cD : ClassId} {ad : Nat → Nat} {w : Nat → va_E} {sz : Nat} (n t cl qu en kp : Nat) (dl ou cp ks pt : Nat → Nat) (co sh : Nat → Nat → Nat) (vs : Nat → Int64) (cd : Int32) (hok : OkS n t cl qu en kp dl ou cp ks pt co sh) (hRM : RM ad cJ cZ w cd n t cl qu en kp dl ou cp ks pt co sh vs)  : MW l yX5_about (.code yX5_about cX5_about 4 (some .int)) ({ frames := 1, cells := 0, slots := 0, locals := 32 }) [.ref (ad 77), .int (nI 0)] D (tyL cI cJ cZ cD) ad 89 w sz (some (.int (nI n))) (fun u => (∀ z, z < 77 ∨ 87 < z → u z = w z) ∧ RM ad cJ cZ u (nI 0) n t cl qu en kp dl ou cp ks pt co sh vs) := by
  refine MW.of (by decide) (Nat.le_of_ble_eq_true rfl) ?_
  intro p e s m below meth c ls hC hr hlocks hl hw
  obtain ⟨hx, hb, hml, hown, hts⟩ := id hC
  have hA : ∀ q, s.heap.size ≤ q → xA ad 89 s.heap.size q := fun q h => Or.inr h
  have hl : lv_has ls 4 [(0, .ref (ad 77)), (1, .int (nI 0))] := hl
  obtain ⟨⟨hs, hM⟩, ⟨dz, oz, hDz, hOz, hdo⟩, ⟨cf, mf, sf, hCf, hMf, hSf, hcs⟩, ⟨xf, hXf, hxx⟩, ⟨kyf, swf, hKy, hSw, hks⟩, ⟨vlf, hVl, hvl⟩, ⟨plf, hPl, hpl⟩⟩ := id hRM
  obtain ⟨⟨hn, ht, hcl, hqu, hen, hkp⟩, hle, ⟨hqb, hkb, hcb⟩, hvals, hclv, hptl, ⟨hz1, hz2, hz3⟩⟩ := id hok
  refine lv_aload_n hx hb dX5_about_0 rfl (lv_at hl 0 rfl) ?_
  refine lv_iload_n hx hb dX5_about_1 rfl (lv_at hl 1 rfl) ?_
  refine lv_if_lt (tgt := 11) hx hb dX5_about_2 (by decide) (fun q_1 => absurd q_1 (by decide)) (fun q_1 => ?_)
  refine lv_iload_n hx hb dX5_about_5 rfl (lv_at hl 1 rfl) ?_
  refine lv_bipush (v := nI 7) hx hb dX5_about_6 (by decide) ?_
  refine lv_icmp_le (tgt := 15) hx hb dX5_about_8 (by decide) (fun q_2 => ?_) (fun q_2 => absurd (by decide) q_2)
  refine lv_iconst (v := nI 0) hx hb dX5_about_15 (by decide) ?_
  refine x_callW1 (As := [.int (nI 0)]) (rest := []) hC vf_X5_64 hw hA (by decide) hM rfl rfl (k5_refuses0 l _ _ _ _ _ _ _ _ hM) ⟨rfl, rfl, Nat.le_of_ble_eq_true rfl, Nat.le_of_ble_eq_true rfl⟩ hl.1 (Nat.le_of_ble_eq_true rfl) dX5_about_16 ⟨Nat.zero_le _, Nat.zero_le _⟩ rfl (fun w_4 H locs hu_3 hw => ?_)
  have hc_5 : w_4 77 = .inr (4, [.int (nI 0), .int (nI n), .int (nI t), .int (nI cl), .ref (ad 78), .ref (ad 79), .ref (ad 80), .ref (ad 81), .ref (ad 82), .ref (ad 83), .int (nI qu), .ref (ad 84), .ref (ad 85), .ref (ad 86), .int (nI en), .int (nI kp), .ref (ad 87), .long hs]) := by rw [hu_3]; exact va_up_self _ _ _
  have hc_6 : w_4 78 = .inl (cZ, 17, .inl dz) := by rw [hu_3, va_up_ne _ _ (by decide)]; exact hDz
  have hc_7 : w_4 79 = .inl (cZ, 17, .inl oz) := by rw [hu_3, va_up_ne _ _ (by decide)]; exact hOz
  have hc_8 : w_4 80 = .inl (cJ, 289, .inr (.inl cf)) := by rw [hu_3, va_up_ne _ _ (by decide)]; exact hCf
  have hc_9 : w_4 81 = .inl (cJ, 289, .inr (.inl mf)) := by rw [hu_3, va_up_ne _ _ (by decide)]; exact hMf
  have hc_10 : w_4 82 = .inl (cJ, 289, .inr (.inl sf)) := by rw [hu_3, va_up_ne _ _ (by decide)]; exact hSf
  have hc_11 : w_4 83 = .inl (cZ, 289, .inl xf) := by rw [hu_3, va_up_ne _ _ (by decide)]; exact hXf
  have hc_12 : w_4 84 = .inl (cJ, 17, .inr (.inl kyf)) := by rw [hu_3, va_up_ne _ _ (by decide)]; exact hKy
  have hc_13 : w_4 85 = .inl (cJ, 17, .inr (.inl swf)) := by rw [hu_3, va_up_ne _ _ (by decide)]; exact hSw
  have hc_14 : w_4 86 = .inl (cJ, 301, .inr (.inl vlf)) := by rw [hu_3, va_up_ne _ _ (by decide)]; exact hVl
  have hc_15 : w_4 87 = .inl (cJ, 17, .inr (.inl plf)) := by rw [hu_3, va_up_ne _ _ (by decide)]; exact hPl
  refine lv_if_eq (tgt := 24) hx hb dX5_about_19 (by decide) (fun q_16 => ?_) (fun q_16 => absurd (by decide) q_16)
  refine lv_iconst (v := nI 0) hx hb dX5_about_24 (by decide) ?_
  refine lv_istore_n (lv' := [(2, .int (nI 0)), (0, .ref (ad 77)), (1, .int (nI 0))]) hx hb dX5_about_25 rfl hl (by decide) rfl (fun ls hl => ?_)
  refine lv_iconst (v := nI 1) hx hb dX5_about_26 (by decide) ?_
  refine lv_istore_n (lv' := [(3, .int (nI 1)), (2, .int (nI 0)), (0, .ref (ad 77)), (1, .int (nI 0))]) hx hb dX5_about_27 rfl hl (by decide) rfl (fun ls hl => ?_)
  refine k5_about_loop hC hA (nI 0) n t cl qu en kp hs dz oz hn hqu 0 (by decide) dl ou (fun i => ⟨(hle i).1, (hle i).2.1⟩) hdo hc_5 hc_6 hc_7 (fun ls H locs hw hl => ?_) n 0 ls H locs (by omega) hw (lv_sub hl [2, 3, 1, 0] rfl)
  refine lv_iload_n hx hb dX5_about_95 rfl (lv_at hl 1 rfl) ?_
  refine lv_tableIn (x := nI 0) (off := 48) (tgt := 144) hx hb dX5_about_96 (by decide) (by decide) (by decide) (by decide) ?_
  refine lv_aload_n hx hb dX5_about_144 rfl (lv_at hl 0 rfl) ?_
  refine gf_X5_59 hx hb hts hown hw (by decide) hc_5 rfl dX5_about_145 ?_
  have hfr : ∀ z, z ≠ 77 → w_4 z = w z := fun z hhfr0 => by rw [hu_3, va_up_ne _ _ hhfr0]
  exact x_wretI hx hb hr hlocks hw ⟨fun z hz => hfr z (by omega), RM.set77 hRM hfr hc_5⟩ dX5_about_148
set_option maxHeartbeats 4000000 in
set_option maxRecDepth 100000 in
theorem m_about1 (l : Launch) {D : va_G} {cI cJ cZ cD : ClassId} {ad : Nat → Nat} {w : Nat → va_E} {sz : Nat} (n t cl qu en kp : Nat) (dl ou cp ks pt : Nat → Nat) (co sh : Nat → Nat → Nat) (vs : Nat → Int64) (cd : Int32) (hok : OkS n t cl qu en kp dl ou cp ks pt co sh) (hRM : RM ad cJ cZ w cd n t cl qu en kp dl ou cp ks pt co sh vs)  : MW l yX5_about (.code yX5_about cX5_about 4 (some .int)) ({ frames := 1, cells := 0, slots := 0, locals := 32 }) [.ref (ad 77), .int (nI 1)] D (tyL cI cJ cZ cD) ad 89 w sz (some (.int (nI t))) (fun u => (∀ z, z < 77 ∨ 87 < z → u z = w z) ∧ RM ad cJ cZ u (nI 0) n t cl qu en kp dl ou cp ks pt co sh vs) := by
  refine MW.of (by decide) (Nat.le_of_ble_eq_true rfl) ?_
  intro p e s m below meth c ls hC hr hlocks hl hw
  obtain ⟨hx, hb, hml, hown, hts⟩ := id hC
  have hA : ∀ q, s.heap.size ≤ q → xA ad 89 s.heap.size q := fun q h => Or.inr h
  have hl : lv_has ls 4 [(0, .ref (ad 77)), (1, .int (nI 1))] := hl
  obtain ⟨⟨hs, hM⟩, ⟨dz, oz, hDz, hOz, hdo⟩, ⟨cf, mf, sf, hCf, hMf, hSf, hcs⟩, ⟨xf, hXf, hxx⟩, ⟨kyf, swf, hKy, hSw, hks⟩, ⟨vlf, hVl, hvl⟩, ⟨plf, hPl, hpl⟩⟩ := id hRM
  obtain ⟨⟨hn, ht, hcl, hqu, hen, hkp⟩, hle, ⟨hqb, hkb, hcb⟩, hvals, hclv, hptl, ⟨hz1, hz2, hz3⟩⟩ := id hok
  refine lv_aload_n hx hb dX5_about_0 rfl (lv_at hl 0 rfl) ?_
  refine lv_iload_n hx hb dX5_about_1 rfl (lv_at hl 1 rfl) ?_
  refine lv_if_lt (tgt := 11) hx hb dX5_about_2 (by decide) (fun q_1 => absurd q_1 (by decide)) (fun q_1 => ?_)
  refine lv_iload_n hx hb dX5_about_5 rfl (lv_at hl 1 rfl) ?_
  refine lv_bipush (v := nI 7) hx hb dX5_about_6 (by decide) ?_
  refine lv_icmp_le (tgt := 15) hx hb dX5_about_8 (by decide) (fun q_2 => ?_) (fun q_2 => absurd (by decide) q_2)
  refine lv_iconst (v := nI 0) hx hb dX5_about_15 (by decide) ?_
  refine x_callW1 (As := [.int (nI 0)]) (rest := []) hC vf_X5_64 hw hA (by decide) hM rfl rfl (k5_refuses0 l _ _ _ _ _ _ _ _ hM) ⟨rfl, rfl, Nat.le_of_ble_eq_true rfl, Nat.le_of_ble_eq_true rfl⟩ hl.1 (Nat.le_of_ble_eq_true rfl) dX5_about_16 ⟨Nat.zero_le _, Nat.zero_le _⟩ rfl (fun w_4 H locs hu_3 hw => ?_)
  have hc_5 : w_4 77 = .inr (4, [.int (nI 0), .int (nI n), .int (nI t), .int (nI cl), .ref (ad 78), .ref (ad 79), .ref (ad 80), .ref (ad 81), .ref (ad 82), .ref (ad 83), .int (nI qu), .ref (ad 84), .ref (ad 85), .ref (ad 86), .int (nI en), .int (nI kp), .ref (ad 87), .long hs]) := by rw [hu_3]; exact va_up_self _ _ _
  have hc_6 : w_4 78 = .inl (cZ, 17, .inl dz) := by rw [hu_3, va_up_ne _ _ (by decide)]; exact hDz
  have hc_7 : w_4 79 = .inl (cZ, 17, .inl oz) := by rw [hu_3, va_up_ne _ _ (by decide)]; exact hOz
  have hc_8 : w_4 80 = .inl (cJ, 289, .inr (.inl cf)) := by rw [hu_3, va_up_ne _ _ (by decide)]; exact hCf
  have hc_9 : w_4 81 = .inl (cJ, 289, .inr (.inl mf)) := by rw [hu_3, va_up_ne _ _ (by decide)]; exact hMf
  have hc_10 : w_4 82 = .inl (cJ, 289, .inr (.inl sf)) := by rw [hu_3, va_up_ne _ _ (by decide)]; exact hSf
  have hc_11 : w_4 83 = .inl (cZ, 289, .inl xf) := by rw [hu_3, va_up_ne _ _ (by decide)]; exact hXf
  have hc_12 : w_4 84 = .inl (cJ, 17, .inr (.inl kyf)) := by rw [hu_3, va_up_ne _ _ (by decide)]; exact hKy
  have hc_13 : w_4 85 = .inl (cJ, 17, .inr (.inl swf)) := by rw [hu_3, va_up_ne _ _ (by decide)]; exact hSw
  have hc_14 : w_4 86 = .inl (cJ, 301, .inr (.inl vlf)) := by rw [hu_3, va_up_ne _ _ (by decide)]; exact hVl
  have hc_15 : w_4 87 = .inl (cJ, 17, .inr (.inl plf)) := by rw [hu_3, va_up_ne _ _ (by decide)]; exact hPl
  refine lv_if_eq (tgt := 24) hx hb dX5_about_19 (by decide) (fun q_16 => ?_) (fun q_16 => absurd (by decide) q_16)
  refine lv_iconst (v := nI 0) hx hb dX5_about_24 (by decide) ?_
  refine lv_istore_n (lv' := [(2, .int (nI 0)), (0, .ref (ad 77)), (1, .int (nI 1))]) hx hb dX5_about_25 rfl hl (by decide) rfl (fun ls hl => ?_)
  refine lv_iconst (v := nI 1) hx hb dX5_about_26 (by decide) ?_
  refine lv_istore_n (lv' := [(3, .int (nI 1)), (2, .int (nI 0)), (0, .ref (ad 77)), (1, .int (nI 1))]) hx hb dX5_about_27 rfl hl (by decide) rfl (fun ls hl => ?_)
  refine k5_about_loop hC hA (nI 0) n t cl qu en kp hs dz oz hn hqu 1 (by decide) dl ou (fun i => ⟨(hle i).1, (hle i).2.1⟩) hdo hc_5 hc_6 hc_7 (fun ls H locs hw hl => ?_) n 0 ls H locs (by omega) hw (lv_sub hl [2, 3, 1, 0] rfl)
  refine lv_iload_n hx hb dX5_about_95 rfl (lv_at hl 1 rfl) ?_
  refine lv_tableIn (x := nI 1) (off := 53) (tgt := 149) hx hb dX5_about_96 (by decide) (by decide) (by decide) (by decide) ?_
  refine lv_aload_n hx hb dX5_about_149 rfl (lv_at hl 0 rfl) ?_
  refine gf_X5_68 hx hb hts hown hw (by decide) hc_5 rfl dX5_about_150 ?_
  have hfr : ∀ z, z ≠ 77 → w_4 z = w z := fun z hhfr0 => by rw [hu_3, va_up_ne _ _ hhfr0]
  exact x_wretI hx hb hr hlocks hw ⟨fun z hz => hfr z (by omega), RM.set77 hRM hfr hc_5⟩ dX5_about_153
set_option maxHeartbeats 4000000 in
set_option maxRecDepth 100000 in
theorem m_about2 (l : Launch) {D : va_G} {cI cJ cZ cD : ClassId} {ad : Nat → Nat} {w : Nat → va_E} {sz : Nat} (n t cl qu en kp : Nat) (dl ou cp ks pt : Nat → Nat) (co sh : Nat → Nat → Nat) (vs : Nat → Int64) (cd : Int32) (hok : OkS n t cl qu en kp dl ou cp ks pt co sh) (hRM : RM ad cJ cZ w cd n t cl qu en kp dl ou cp ks pt co sh vs)  : MW l yX5_about (.code yX5_about cX5_about 4 (some .int)) ({ frames := 1, cells := 0, slots := 0, locals := 32 }) [.ref (ad 77), .int (nI 2)] D (tyL cI cJ cZ cD) ad 89 w sz (some (.int (nI (cnt dl n)))) (fun u => (∀ z, z < 77 ∨ 87 < z → u z = w z) ∧ RM ad cJ cZ u (nI 0) n t cl qu en kp dl ou cp ks pt co sh vs) := by
  refine MW.of (by decide) (Nat.le_of_ble_eq_true rfl) ?_
  intro p e s m below meth c ls hC hr hlocks hl hw
  obtain ⟨hx, hb, hml, hown, hts⟩ := id hC
  have hA : ∀ q, s.heap.size ≤ q → xA ad 89 s.heap.size q := fun q h => Or.inr h
  have hl : lv_has ls 4 [(0, .ref (ad 77)), (1, .int (nI 2))] := hl
  obtain ⟨⟨hs, hM⟩, ⟨dz, oz, hDz, hOz, hdo⟩, ⟨cf, mf, sf, hCf, hMf, hSf, hcs⟩, ⟨xf, hXf, hxx⟩, ⟨kyf, swf, hKy, hSw, hks⟩, ⟨vlf, hVl, hvl⟩, ⟨plf, hPl, hpl⟩⟩ := id hRM
  obtain ⟨⟨hn, ht, hcl, hqu, hen, hkp⟩, hle, ⟨hqb, hkb, hcb⟩, hvals, hclv, hptl, ⟨hz1, hz2, hz3⟩⟩ := id hok
  refine lv_aload_n hx hb dX5_about_0 rfl (lv_at hl 0 rfl) ?_
  refine lv_iload_n hx hb dX5_about_1 rfl (lv_at hl 1 rfl) ?_
  refine lv_if_lt (tgt := 11) hx hb dX5_about_2 (by decide) (fun q_1 => absurd q_1 (by decide)) (fun q_1 => ?_)
  refine lv_iload_n hx hb dX5_about_5 rfl (lv_at hl 1 rfl) ?_
  refine lv_bipush (v := nI 7) hx hb dX5_about_6 (by decide) ?_
  refine lv_icmp_le (tgt := 15) hx hb dX5_about_8 (by decide) (fun q_2 => ?_) (fun q_2 => absurd (by decide) q_2)
  refine lv_iconst (v := nI 0) hx hb dX5_about_15 (by decide) ?_
  refine x_callW1 (As := [.int (nI 0)]) (rest := []) hC vf_X5_64 hw hA (by decide) hM rfl rfl (k5_refuses0 l _ _ _ _ _ _ _ _ hM) ⟨rfl, rfl, Nat.le_of_ble_eq_true rfl, Nat.le_of_ble_eq_true rfl⟩ hl.1 (Nat.le_of_ble_eq_true rfl) dX5_about_16 ⟨Nat.zero_le _, Nat.zero_le _⟩ rfl (fun w_4 H locs hu_3 hw => ?_)
  have hc_5 : w_4 77 = .inr (4, [.int (nI 0), .int (nI n), .int (nI t), .int (nI cl), .ref (ad 78), .ref (ad 79), .ref (ad 80), .ref (ad 81), .ref (ad 82), .ref (ad 83), .int (nI qu), .ref (ad 84), .ref (ad 85), .ref (ad 86), .int (nI en), .int (nI kp), .ref (ad 87), .long hs]) := by rw [hu_3]; exact va_up_self _ _ _
  have hc_6 : w_4 78 = .inl (cZ, 17, .inl dz) := by rw [hu_3, va_up_ne _ _ (by decide)]; exact hDz
  have hc_7 : w_4 79 = .inl (cZ, 17, .inl oz) := by rw [hu_3, va_up_ne _ _ (by decide)]; exact hOz
  have hc_8 : w_4 80 = .inl (cJ, 289, .inr (.inl cf)) := by rw [hu_3, va_up_ne _ _ (by decide)]; exact hCf
  have hc_9 : w_4 81 = .inl (cJ, 289, .inr (.inl mf)) := by rw [hu_3, va_up_ne _ _ (by decide)]; exact hMf
  have hc_10 : w_4 82 = .inl (cJ, 289, .inr (.inl sf)) := by rw [hu_3, va_up_ne _ _ (by decide)]; exact hSf
  have hc_11 : w_4 83 = .inl (cZ, 289, .inl xf) := by rw [hu_3, va_up_ne _ _ (by decide)]; exact hXf
  have hc_12 : w_4 84 = .inl (cJ, 17, .inr (.inl kyf)) := by rw [hu_3, va_up_ne _ _ (by decide)]; exact hKy
  have hc_13 : w_4 85 = .inl (cJ, 17, .inr (.inl swf)) := by rw [hu_3, va_up_ne _ _ (by decide)]; exact hSw
  have hc_14 : w_4 86 = .inl (cJ, 301, .inr (.inl vlf)) := by rw [hu_3, va_up_ne _ _ (by decide)]; exact hVl
  have hc_15 : w_4 87 = .inl (cJ, 17, .inr (.inl plf)) := by rw [hu_3, va_up_ne _ _ (by decide)]; exact hPl
  refine lv_if_eq (tgt := 24) hx hb dX5_about_19 (by decide) (fun q_16 => ?_) (fun q_16 => absurd (by decide) q_16)
  refine lv_iconst (v := nI 0) hx hb dX5_about_24 (by decide) ?_
  refine lv_istore_n (lv' := [(2, .int (nI 0)), (0, .ref (ad 77)), (1, .int (nI 2))]) hx hb dX5_about_25 rfl hl (by decide) rfl (fun ls hl => ?_)
  refine lv_iconst (v := nI 1) hx hb dX5_about_26 (by decide) ?_
  refine lv_istore_n (lv' := [(3, .int (nI 1)), (2, .int (nI 0)), (0, .ref (ad 77)), (1, .int (nI 2))]) hx hb dX5_about_27 rfl hl (by decide) rfl (fun ls hl => ?_)
  refine k5_about_loop hC hA (nI 0) n t cl qu en kp hs dz oz hn hqu 2 (by decide) dl ou (fun i => ⟨(hle i).1, (hle i).2.1⟩) hdo hc_5 hc_6 hc_7 (fun ls H locs hw hl => ?_) n 0 ls H locs (by omega) hw (lv_sub hl [2, 3, 1, 0] rfl)
  refine lv_iload_n hx hb dX5_about_95 rfl (lv_at hl 1 rfl) ?_
  refine lv_tableIn (x := nI 2) (off := 74) (tgt := 170) hx hb dX5_about_96 (by decide) (by decide) (by decide) (by decide) ?_
  refine lv_iload_n hx hb dX5_about_170 rfl (lv_at hl 2 rfl) ?_
  rw [show cnt (abF dl ou qu 2) n = cnt dl n from rfl]
  have hfr : ∀ z, z ≠ 77 → w_4 z = w z := fun z hhfr0 => by rw [hu_3, va_up_ne _ _ hhfr0]
  exact x_wretI hx hb hr hlocks hw ⟨fun z hz => hfr z (by omega), RM.set77 hRM hfr hc_5⟩ dX5_about_171
set_option maxHeartbeats 4000000 in
set_option maxRecDepth 100000 in
theorem m_about3 (l : Launch) {D : va_G} {cI cJ cZ cD : ClassId} {ad : Nat → Nat} {w : Nat → va_E} {sz : Nat} (n t cl qu en kp : Nat) (dl ou cp ks pt : Nat → Nat) (co sh : Nat → Nat → Nat) (vs : Nat → Int64) (cd : Int32) (hok : OkS n t cl qu en kp dl ou cp ks pt co sh) (hRM : RM ad cJ cZ w cd n t cl qu en kp dl ou cp ks pt co sh vs)  : MW l yX5_about (.code yX5_about cX5_about 4 (some .int)) ({ frames := 1, cells := 0, slots := 0, locals := 32 }) [.ref (ad 77), .int (nI 3)] D (tyL cI cJ cZ cD) ad 89 w sz (some (.int (nI (cnt (fun i => pcN (cp i)) n)))) (fun u => (∀ z, z < 77 ∨ 87 < z → u z = w z) ∧ RM ad cJ cZ u (nI 0) n t cl qu en kp dl ou cp ks pt co sh vs) := by
  refine MW.of (by decide) (Nat.le_of_ble_eq_true rfl) ?_
  intro p e s m below meth c ls hC hr hlocks hl hw
  obtain ⟨hx, hb, hml, hown, hts⟩ := id hC
  have hA : ∀ q, s.heap.size ≤ q → xA ad 89 s.heap.size q := fun q h => Or.inr h
  have hl : lv_has ls 4 [(0, .ref (ad 77)), (1, .int (nI 3))] := hl
  obtain ⟨⟨hs, hM⟩, ⟨dz, oz, hDz, hOz, hdo⟩, ⟨cf, mf, sf, hCf, hMf, hSf, hcs⟩, ⟨xf, hXf, hxx⟩, ⟨kyf, swf, hKy, hSw, hks⟩, ⟨vlf, hVl, hvl⟩, ⟨plf, hPl, hpl⟩⟩ := id hRM
  obtain ⟨⟨hn, ht, hcl, hqu, hen, hkp⟩, hle, ⟨hqb, hkb, hcb⟩, hvals, hclv, hptl, ⟨hz1, hz2, hz3⟩⟩ := id hok
  refine lv_aload_n hx hb dX5_about_0 rfl (lv_at hl 0 rfl) ?_
  refine lv_iload_n hx hb dX5_about_1 rfl (lv_at hl 1 rfl) ?_
  refine lv_if_lt (tgt := 11) hx hb dX5_about_2 (by decide) (fun q_1 => absurd q_1 (by decide)) (fun q_1 => ?_)
  refine lv_iload_n hx hb dX5_about_5 rfl (lv_at hl 1 rfl) ?_
  refine lv_bipush (v := nI 7) hx hb dX5_about_6 (by decide) ?_
  refine lv_icmp_le (tgt := 15) hx hb dX5_about_8 (by decide) (fun q_2 => ?_) (fun q_2 => absurd (by decide) q_2)
  refine lv_iconst (v := nI 0) hx hb dX5_about_15 (by decide) ?_
  refine x_callW1 (As := [.int (nI 0)]) (rest := []) hC vf_X5_64 hw hA (by decide) hM rfl rfl (k5_refuses0 l _ _ _ _ _ _ _ _ hM) ⟨rfl, rfl, Nat.le_of_ble_eq_true rfl, Nat.le_of_ble_eq_true rfl⟩ hl.1 (Nat.le_of_ble_eq_true rfl) dX5_about_16 ⟨Nat.zero_le _, Nat.zero_le _⟩ rfl (fun w_4 H locs hu_3 hw => ?_)
  have hc_5 : w_4 77 = .inr (4, [.int (nI 0), .int (nI n), .int (nI t), .int (nI cl), .ref (ad 78), .ref (ad 79), .ref (ad 80), .ref (ad 81), .ref (ad 82), .ref (ad 83), .int (nI qu), .ref (ad 84), .ref (ad 85), .ref (ad 86), .int (nI en), .int (nI kp), .ref (ad 87), .long hs]) := by rw [hu_3]; exact va_up_self _ _ _
  have hc_6 : w_4 78 = .inl (cZ, 17, .inl dz) := by rw [hu_3, va_up_ne _ _ (by decide)]; exact hDz
  have hc_7 : w_4 79 = .inl (cZ, 17, .inl oz) := by rw [hu_3, va_up_ne _ _ (by decide)]; exact hOz
  have hc_8 : w_4 80 = .inl (cJ, 289, .inr (.inl cf)) := by rw [hu_3, va_up_ne _ _ (by decide)]; exact hCf
  have hc_9 : w_4 81 = .inl (cJ, 289, .inr (.inl mf)) := by rw [hu_3, va_up_ne _ _ (by decide)]; exact hMf
  have hc_10 : w_4 82 = .inl (cJ, 289, .inr (.inl sf)) := by rw [hu_3, va_up_ne _ _ (by decide)]; exact hSf
  have hc_11 : w_4 83 = .inl (cZ, 289, .inl xf) := by rw [hu_3, va_up_ne _ _ (by decide)]; exact hXf
  have hc_12 : w_4 84 = .inl (cJ, 17, .inr (.inl kyf)) := by rw [hu_3, va_up_ne _ _ (by decide)]; exact hKy
  have hc_13 : w_4 85 = .inl (cJ, 17, .inr (.inl swf)) := by rw [hu_3, va_up_ne _ _ (by decide)]; exact hSw
  have hc_14 : w_4 86 = .inl (cJ, 301, .inr (.inl vlf)) := by rw [hu_3, va_up_ne _ _ (by decide)]; exact hVl
  have hc_15 : w_4 87 = .inl (cJ, 17, .inr (.inl plf)) := by rw [hu_3, va_up_ne _ _ (by decide)]; exact hPl
  refine lv_if_eq (tgt := 24) hx hb dX5_about_19 (by decide) (fun q_16 => ?_) (fun q_16 => absurd (by decide) q_16)
  refine lv_iconst (v := nI 0) hx hb dX5_about_24 (by decide) ?_
  refine lv_istore_n (lv' := [(2, .int (nI 0)), (0, .ref (ad 77)), (1, .int (nI 3))]) hx hb dX5_about_25 rfl hl (by decide) rfl (fun ls hl => ?_)
  refine lv_iconst (v := nI 1) hx hb dX5_about_26 (by decide) ?_
  refine lv_istore_n (lv' := [(3, .int (nI 1)), (2, .int (nI 0)), (0, .ref (ad 77)), (1, .int (nI 3))]) hx hb dX5_about_27 rfl hl (by decide) rfl (fun ls hl => ?_)
  refine k5_about_loop hC hA (nI 0) n t cl qu en kp hs dz oz hn hqu 3 (by decide) dl ou (fun i => ⟨(hle i).1, (hle i).2.1⟩) hdo hc_5 hc_6 hc_7 (fun ls H locs hw hl => ?_) n 0 ls H locs (by omega) hw (lv_sub hl [2, 3, 1, 0] rfl)
  refine lv_iload_n hx hb dX5_about_95 rfl (lv_at hl 1 rfl) ?_
  refine lv_tableIn (x := nI 3) (off := 58) (tgt := 154) hx hb dX5_about_96 (by decide) (by decide) (by decide) (by decide) ?_
  refine lv_aload_n hx hb dX5_about_154 rfl (lv_at hl 0 rfl) ?_
  refine lv_iconst (v := nI 0) hx hb dX5_about_155 (by decide) ?_
  refine x_callW1 (As := [.int (nI 0)]) (rest := []) hC vf_X5_106 hw hA (by decide) hc_5 rfl rfl (k5_complaints l _ _ _ _ _ _ _ _ xf hn cp hxx 0 (by decide) hc_5 hc_11) ⟨rfl, rfl, Nat.le_of_ble_eq_true rfl, Nat.le_of_ble_eq_true rfl⟩ hl.1 (Nat.le_of_ble_eq_true rfl) dX5_about_156 ⟨Nat.zero_le _, Nat.zero_le _⟩ rfl (fun w_17 H locs hu hw => ?_)
  rw [hu] at hw
  rw [rct_0 hn (fun i k q => (hcb i k q).1)]
  have hfr : ∀ z, z ≠ 77 → w_4 z = w z := fun z hhfr0 => by rw [hu_3, va_up_ne _ _ hhfr0]
  exact x_wretI hx hb hr hlocks hw ⟨fun z hz => hfr z (by omega), RM.set77 hRM hfr hc_5⟩ dX5_about_159
set_option maxHeartbeats 4000000 in
set_option maxRecDepth 100000 in
theorem m_about4 (l : Launch) {D : va_G} {cI cJ cZ cD : ClassId} {ad : Nat → Nat} {w : Nat → va_E} {sz : Nat} (n t cl qu en kp : Nat) (dl ou cp ks pt : Nat → Nat) (co sh : Nat → Nat → Nat) (vs : Nat → Int64) (cd : Int32) (hok : OkS n t cl qu en kp dl ou cp ks pt co sh) (hRM : RM ad cJ cZ w cd n t cl qu en kp dl ou cp ks pt co sh vs)  : MW l yX5_about (.code yX5_about cX5_about 4 (some .int)) ({ frames := 1, cells := 0, slots := 0, locals := 32 }) [.ref (ad 77), .int (nI 4)] D (tyL cI cJ cZ cD) ad 89 w sz (some (.int (nI (cnt ou n)))) (fun u => (∀ z, z < 77 ∨ 87 < z → u z = w z) ∧ RM ad cJ cZ u (nI 0) n t cl qu en kp dl ou cp ks pt co sh vs) := by
  refine MW.of (by decide) (Nat.le_of_ble_eq_true rfl) ?_
  intro p e s m below meth c ls hC hr hlocks hl hw
  obtain ⟨hx, hb, hml, hown, hts⟩ := id hC
  have hA : ∀ q, s.heap.size ≤ q → xA ad 89 s.heap.size q := fun q h => Or.inr h
  have hl : lv_has ls 4 [(0, .ref (ad 77)), (1, .int (nI 4))] := hl
  obtain ⟨⟨hs, hM⟩, ⟨dz, oz, hDz, hOz, hdo⟩, ⟨cf, mf, sf, hCf, hMf, hSf, hcs⟩, ⟨xf, hXf, hxx⟩, ⟨kyf, swf, hKy, hSw, hks⟩, ⟨vlf, hVl, hvl⟩, ⟨plf, hPl, hpl⟩⟩ := id hRM
  obtain ⟨⟨hn, ht, hcl, hqu, hen, hkp⟩, hle, ⟨hqb, hkb, hcb⟩, hvals, hclv, hptl, ⟨hz1, hz2, hz3⟩⟩ := id hok
  refine lv_aload_n hx hb dX5_about_0 rfl (lv_at hl 0 rfl) ?_
  refine lv_iload_n hx hb dX5_about_1 rfl (lv_at hl 1 rfl) ?_
  refine lv_if_lt (tgt := 11) hx hb dX5_about_2 (by decide) (fun q_1 => absurd q_1 (by decide)) (fun q_1 => ?_)
  refine lv_iload_n hx hb dX5_about_5 rfl (lv_at hl 1 rfl) ?_
  refine lv_bipush (v := nI 7) hx hb dX5_about_6 (by decide) ?_
  refine lv_icmp_le (tgt := 15) hx hb dX5_about_8 (by decide) (fun q_2 => ?_) (fun q_2 => absurd (by decide) q_2)
  refine lv_iconst (v := nI 0) hx hb dX5_about_15 (by decide) ?_
  refine x_callW1 (As := [.int (nI 0)]) (rest := []) hC vf_X5_64 hw hA (by decide) hM rfl rfl (k5_refuses0 l _ _ _ _ _ _ _ _ hM) ⟨rfl, rfl, Nat.le_of_ble_eq_true rfl, Nat.le_of_ble_eq_true rfl⟩ hl.1 (Nat.le_of_ble_eq_true rfl) dX5_about_16 ⟨Nat.zero_le _, Nat.zero_le _⟩ rfl (fun w_4 H locs hu_3 hw => ?_)
  have hc_5 : w_4 77 = .inr (4, [.int (nI 0), .int (nI n), .int (nI t), .int (nI cl), .ref (ad 78), .ref (ad 79), .ref (ad 80), .ref (ad 81), .ref (ad 82), .ref (ad 83), .int (nI qu), .ref (ad 84), .ref (ad 85), .ref (ad 86), .int (nI en), .int (nI kp), .ref (ad 87), .long hs]) := by rw [hu_3]; exact va_up_self _ _ _
  have hc_6 : w_4 78 = .inl (cZ, 17, .inl dz) := by rw [hu_3, va_up_ne _ _ (by decide)]; exact hDz
  have hc_7 : w_4 79 = .inl (cZ, 17, .inl oz) := by rw [hu_3, va_up_ne _ _ (by decide)]; exact hOz
  have hc_8 : w_4 80 = .inl (cJ, 289, .inr (.inl cf)) := by rw [hu_3, va_up_ne _ _ (by decide)]; exact hCf
  have hc_9 : w_4 81 = .inl (cJ, 289, .inr (.inl mf)) := by rw [hu_3, va_up_ne _ _ (by decide)]; exact hMf
  have hc_10 : w_4 82 = .inl (cJ, 289, .inr (.inl sf)) := by rw [hu_3, va_up_ne _ _ (by decide)]; exact hSf
  have hc_11 : w_4 83 = .inl (cZ, 289, .inl xf) := by rw [hu_3, va_up_ne _ _ (by decide)]; exact hXf
  have hc_12 : w_4 84 = .inl (cJ, 17, .inr (.inl kyf)) := by rw [hu_3, va_up_ne _ _ (by decide)]; exact hKy
  have hc_13 : w_4 85 = .inl (cJ, 17, .inr (.inl swf)) := by rw [hu_3, va_up_ne _ _ (by decide)]; exact hSw
  have hc_14 : w_4 86 = .inl (cJ, 301, .inr (.inl vlf)) := by rw [hu_3, va_up_ne _ _ (by decide)]; exact hVl
  have hc_15 : w_4 87 = .inl (cJ, 17, .inr (.inl plf)) := by rw [hu_3, va_up_ne _ _ (by decide)]; exact hPl
  refine lv_if_eq (tgt := 24) hx hb dX5_about_19 (by decide) (fun q_16 => ?_) (fun q_16 => absurd (by decide) q_16)
  refine lv_iconst (v := nI 0) hx hb dX5_about_24 (by decide) ?_
  refine lv_istore_n (lv' := [(2, .int (nI 0)), (0, .ref (ad 77)), (1, .int (nI 4))]) hx hb dX5_about_25 rfl hl (by decide) rfl (fun ls hl => ?_)
  refine lv_iconst (v := nI 1) hx hb dX5_about_26 (by decide) ?_
  refine lv_istore_n (lv' := [(3, .int (nI 1)), (2, .int (nI 0)), (0, .ref (ad 77)), (1, .int (nI 4))]) hx hb dX5_about_27 rfl hl (by decide) rfl (fun ls hl => ?_)
  refine k5_about_loop hC hA (nI 0) n t cl qu en kp hs dz oz hn hqu 4 (by decide) dl ou (fun i => ⟨(hle i).1, (hle i).2.1⟩) hdo hc_5 hc_6 hc_7 (fun ls H locs hw hl => ?_) n 0 ls H locs (by omega) hw (lv_sub hl [2, 3, 1, 0] rfl)
  refine lv_iload_n hx hb dX5_about_95 rfl (lv_at hl 1 rfl) ?_
  refine lv_tableIn (x := nI 4) (off := 74) (tgt := 170) hx hb dX5_about_96 (by decide) (by decide) (by decide) (by decide) ?_
  refine lv_iload_n hx hb dX5_about_170 rfl (lv_at hl 2 rfl) ?_
  rw [show cnt (abF dl ou qu 4) n = cnt ou n from rfl]
  have hfr : ∀ z, z ≠ 77 → w_4 z = w z := fun z hhfr0 => by rw [hu_3, va_up_ne _ _ hhfr0]
  exact x_wretI hx hb hr hlocks hw ⟨fun z hz => hfr z (by omega), RM.set77 hRM hfr hc_5⟩ dX5_about_171
set_option maxHeartbeats 4000000 in
set_option maxRecDepth 100000 in
theorem m_about5 (l : Launch) {D : va_G} {cI cJ cZ cD : ClassId} {ad : Nat → Nat} {w : Nat → va_E} {sz : Nat} (n t cl qu en kp : Nat) (dl ou cp ks pt : Nat → Nat) (co sh : Nat → Nat → Nat) (vs : Nat → Int64) (cd : Int32) (hok : OkS n t cl qu en kp dl ou cp ks pt co sh) (hRM : RM ad cJ cZ w cd n t cl qu en kp dl ou cp ks pt co sh vs)  : MW l yX5_about (.code yX5_about cX5_about 4 (some .int)) ({ frames := 1, cells := 0, slots := 0, locals := 32 }) [.ref (ad 77), .int (nI 5)] D (tyL cI cJ cZ cD) ad 89 w sz (some (.int (nI (pcN qu)))) (fun u => (∀ z, z < 77 ∨ 87 < z → u z = w z) ∧ RM ad cJ cZ u (nI 0) n t cl qu en kp dl ou cp ks pt co sh vs) := by
  refine MW.of (by decide) (Nat.le_of_ble_eq_true rfl) ?_
  intro p e s m below meth c ls hC hr hlocks hl hw
  obtain ⟨hx, hb, hml, hown, hts⟩ := id hC
  have hA : ∀ q, s.heap.size ≤ q → xA ad 89 s.heap.size q := fun q h => Or.inr h
  have hl : lv_has ls 4 [(0, .ref (ad 77)), (1, .int (nI 5))] := hl
  obtain ⟨⟨hs, hM⟩, ⟨dz, oz, hDz, hOz, hdo⟩, ⟨cf, mf, sf, hCf, hMf, hSf, hcs⟩, ⟨xf, hXf, hxx⟩, ⟨kyf, swf, hKy, hSw, hks⟩, ⟨vlf, hVl, hvl⟩, ⟨plf, hPl, hpl⟩⟩ := id hRM
  obtain ⟨⟨hn, ht, hcl, hqu, hen, hkp⟩, hle, ⟨hqb, hkb, hcb⟩, hvals, hclv, hptl, ⟨hz1, hz2, hz3⟩⟩ := id hok
  refine lv_aload_n hx hb dX5_about_0 rfl (lv_at hl 0 rfl) ?_
  refine lv_iload_n hx hb dX5_about_1 rfl (lv_at hl 1 rfl) ?_
  refine lv_if_lt (tgt := 11) hx hb dX5_about_2 (by decide) (fun q_1 => absurd q_1 (by decide)) (fun q_1 => ?_)
  refine lv_iload_n hx hb dX5_about_5 rfl (lv_at hl 1 rfl) ?_
  refine lv_bipush (v := nI 7) hx hb dX5_about_6 (by decide) ?_
  refine lv_icmp_le (tgt := 15) hx hb dX5_about_8 (by decide) (fun q_2 => ?_) (fun q_2 => absurd (by decide) q_2)
  refine lv_iconst (v := nI 0) hx hb dX5_about_15 (by decide) ?_
  refine x_callW1 (As := [.int (nI 0)]) (rest := []) hC vf_X5_64 hw hA (by decide) hM rfl rfl (k5_refuses0 l _ _ _ _ _ _ _ _ hM) ⟨rfl, rfl, Nat.le_of_ble_eq_true rfl, Nat.le_of_ble_eq_true rfl⟩ hl.1 (Nat.le_of_ble_eq_true rfl) dX5_about_16 ⟨Nat.zero_le _, Nat.zero_le _⟩ rfl (fun w_4 H locs hu_3 hw => ?_)
  have hc_5 : w_4 77 = .inr (4, [.int (nI 0), .int (nI n), .int (nI t), .int (nI cl), .ref (ad 78), .ref (ad 79), .ref (ad 80), .ref (ad 81), .ref (ad 82), .ref (ad 83), .int (nI qu), .ref (ad 84), .ref (ad 85), .ref (ad 86), .int (nI en), .int (nI kp), .ref (ad 87), .long hs]) := by rw [hu_3]; exact va_up_self _ _ _
  have hc_6 : w_4 78 = .inl (cZ, 17, .inl dz) := by rw [hu_3, va_up_ne _ _ (by decide)]; exact hDz
  have hc_7 : w_4 79 = .inl (cZ, 17, .inl oz) := by rw [hu_3, va_up_ne _ _ (by decide)]; exact hOz
  have hc_8 : w_4 80 = .inl (cJ, 289, .inr (.inl cf)) := by rw [hu_3, va_up_ne _ _ (by decide)]; exact hCf
  have hc_9 : w_4 81 = .inl (cJ, 289, .inr (.inl mf)) := by rw [hu_3, va_up_ne _ _ (by decide)]; exact hMf
  have hc_10 : w_4 82 = .inl (cJ, 289, .inr (.inl sf)) := by rw [hu_3, va_up_ne _ _ (by decide)]; exact hSf
  have hc_11 : w_4 83 = .inl (cZ, 289, .inl xf) := by rw [hu_3, va_up_ne _ _ (by decide)]; exact hXf
  have hc_12 : w_4 84 = .inl (cJ, 17, .inr (.inl kyf)) := by rw [hu_3, va_up_ne _ _ (by decide)]; exact hKy
  have hc_13 : w_4 85 = .inl (cJ, 17, .inr (.inl swf)) := by rw [hu_3, va_up_ne _ _ (by decide)]; exact hSw
  have hc_14 : w_4 86 = .inl (cJ, 301, .inr (.inl vlf)) := by rw [hu_3, va_up_ne _ _ (by decide)]; exact hVl
  have hc_15 : w_4 87 = .inl (cJ, 17, .inr (.inl plf)) := by rw [hu_3, va_up_ne _ _ (by decide)]; exact hPl
  refine lv_if_eq (tgt := 24) hx hb dX5_about_19 (by decide) (fun q_16 => ?_) (fun q_16 => absurd (by decide) q_16)
  refine lv_iconst (v := nI 0) hx hb dX5_about_24 (by decide) ?_
  refine lv_istore_n (lv' := [(2, .int (nI 0)), (0, .ref (ad 77)), (1, .int (nI 5))]) hx hb dX5_about_25 rfl hl (by decide) rfl (fun ls hl => ?_)
  refine lv_iconst (v := nI 1) hx hb dX5_about_26 (by decide) ?_
  refine lv_istore_n (lv' := [(3, .int (nI 1)), (2, .int (nI 0)), (0, .ref (ad 77)), (1, .int (nI 5))]) hx hb dX5_about_27 rfl hl (by decide) rfl (fun ls hl => ?_)
  refine k5_about_loop hC hA (nI 0) n t cl qu en kp hs dz oz hn hqu 5 (by decide) dl ou (fun i => ⟨(hle i).1, (hle i).2.1⟩) hdo hc_5 hc_6 hc_7 (fun ls H locs hw hl => ?_) n 0 ls H locs (by omega) hw (lv_sub hl [2, 3, 1, 0] rfl)
  refine lv_iload_n hx hb dX5_about_95 rfl (lv_at hl 1 rfl) ?_
  refine lv_tableIn (x := nI 5) (off := 74) (tgt := 170) hx hb dX5_about_96 (by decide) (by decide) (by decide) (by decide) ?_
  refine lv_iload_n hx hb dX5_about_170 rfl (lv_at hl 2 rfl) ?_
  rw [show cnt (abF dl ou qu 5) n = pcN qu from pc_cnt hn hqb]
  have hfr : ∀ z, z ≠ 77 → w_4 z = w z := fun z hhfr0 => by rw [hu_3, va_up_ne _ _ hhfr0]
  exact x_wretI hx hb hr hlocks hw ⟨fun z hz => hfr z (by omega), RM.set77 hRM hfr hc_5⟩ dX5_about_171
set_option maxHeartbeats 4000000 in
set_option maxRecDepth 100000 in
theorem m_about6 (l : Launch) {D : va_G} {cI cJ cZ cD : ClassId} {ad : Nat → Nat} {w : Nat → va_E} {sz : Nat} (n t cl qu en kp : Nat) (dl ou cp ks pt : Nat → Nat) (co sh : Nat → Nat → Nat) (vs : Nat → Int64) (cd : Int32) (hok : OkS n t cl qu en kp dl ou cp ks pt co sh) (hRM : RM ad cJ cZ w cd n t cl qu en kp dl ou cp ks pt co sh vs)  : MW l yX5_about (.code yX5_about cX5_about 4 (some .int)) ({ frames := 1, cells := 0, slots := 0, locals := 32 }) [.ref (ad 77), .int (nI 6)] D (tyL cI cJ cZ cD) ad 89 w sz (some (.int (nI qu))) (fun u => (∀ z, z < 77 ∨ 87 < z → u z = w z) ∧ RM ad cJ cZ u (nI 0) n t cl qu en kp dl ou cp ks pt co sh vs) := by
  refine MW.of (by decide) (Nat.le_of_ble_eq_true rfl) ?_
  intro p e s m below meth c ls hC hr hlocks hl hw
  obtain ⟨hx, hb, hml, hown, hts⟩ := id hC
  have hA : ∀ q, s.heap.size ≤ q → xA ad 89 s.heap.size q := fun q h => Or.inr h
  have hl : lv_has ls 4 [(0, .ref (ad 77)), (1, .int (nI 6))] := hl
  obtain ⟨⟨hs, hM⟩, ⟨dz, oz, hDz, hOz, hdo⟩, ⟨cf, mf, sf, hCf, hMf, hSf, hcs⟩, ⟨xf, hXf, hxx⟩, ⟨kyf, swf, hKy, hSw, hks⟩, ⟨vlf, hVl, hvl⟩, ⟨plf, hPl, hpl⟩⟩ := id hRM
  obtain ⟨⟨hn, ht, hcl, hqu, hen, hkp⟩, hle, ⟨hqb, hkb, hcb⟩, hvals, hclv, hptl, ⟨hz1, hz2, hz3⟩⟩ := id hok
  refine lv_aload_n hx hb dX5_about_0 rfl (lv_at hl 0 rfl) ?_
  refine lv_iload_n hx hb dX5_about_1 rfl (lv_at hl 1 rfl) ?_
  refine lv_if_lt (tgt := 11) hx hb dX5_about_2 (by decide) (fun q_1 => absurd q_1 (by decide)) (fun q_1 => ?_)
  refine lv_iload_n hx hb dX5_about_5 rfl (lv_at hl 1 rfl) ?_
  refine lv_bipush (v := nI 7) hx hb dX5_about_6 (by decide) ?_
  refine lv_icmp_le (tgt := 15) hx hb dX5_about_8 (by decide) (fun q_2 => ?_) (fun q_2 => absurd (by decide) q_2)
  refine lv_iconst (v := nI 0) hx hb dX5_about_15 (by decide) ?_
  refine x_callW1 (As := [.int (nI 0)]) (rest := []) hC vf_X5_64 hw hA (by decide) hM rfl rfl (k5_refuses0 l _ _ _ _ _ _ _ _ hM) ⟨rfl, rfl, Nat.le_of_ble_eq_true rfl, Nat.le_of_ble_eq_true rfl⟩ hl.1 (Nat.le_of_ble_eq_true rfl) dX5_about_16 ⟨Nat.zero_le _, Nat.zero_le _⟩ rfl (fun w_4 H locs hu_3 hw => ?_)
  have hc_5 : w_4 77 = .inr (4, [.int (nI 0), .int (nI n), .int (nI t), .int (nI cl), .ref (ad 78), .ref (ad 79), .ref (ad 80), .ref (ad 81), .ref (ad 82), .ref (ad 83), .int (nI qu), .ref (ad 84), .ref (ad 85), .ref (ad 86), .int (nI en), .int (nI kp), .ref (ad 87), .long hs]) := by rw [hu_3]; exact va_up_self _ _ _
  have hc_6 : w_4 78 = .inl (cZ, 17, .inl dz) := by rw [hu_3, va_up_ne _ _ (by decide)]; exact hDz
  have hc_7 : w_4 79 = .inl (cZ, 17, .inl oz) := by rw [hu_3, va_up_ne _ _ (by decide)]; exact hOz
  have hc_8 : w_4 80 = .inl (cJ, 289, .inr (.inl cf)) := by rw [hu_3, va_up_ne _ _ (by decide)]; exact hCf
  have hc_9 : w_4 81 = .inl (cJ, 289, .inr (.inl mf)) := by rw [hu_3, va_up_ne _ _ (by decide)]; exact hMf
  have hc_10 : w_4 82 = .inl (cJ, 289, .inr (.inl sf)) := by rw [hu_3, va_up_ne _ _ (by decide)]; exact hSf
  have hc_11 : w_4 83 = .inl (cZ, 289, .inl xf) := by rw [hu_3, va_up_ne _ _ (by decide)]; exact hXf
  have hc_12 : w_4 84 = .inl (cJ, 17, .inr (.inl kyf)) := by rw [hu_3, va_up_ne _ _ (by decide)]; exact hKy
  have hc_13 : w_4 85 = .inl (cJ, 17, .inr (.inl swf)) := by rw [hu_3, va_up_ne _ _ (by decide)]; exact hSw
  have hc_14 : w_4 86 = .inl (cJ, 301, .inr (.inl vlf)) := by rw [hu_3, va_up_ne _ _ (by decide)]; exact hVl
  have hc_15 : w_4 87 = .inl (cJ, 17, .inr (.inl plf)) := by rw [hu_3, va_up_ne _ _ (by decide)]; exact hPl
  refine lv_if_eq (tgt := 24) hx hb dX5_about_19 (by decide) (fun q_16 => ?_) (fun q_16 => absurd (by decide) q_16)
  refine lv_iconst (v := nI 0) hx hb dX5_about_24 (by decide) ?_
  refine lv_istore_n (lv' := [(2, .int (nI 0)), (0, .ref (ad 77)), (1, .int (nI 6))]) hx hb dX5_about_25 rfl hl (by decide) rfl (fun ls hl => ?_)
  refine lv_iconst (v := nI 1) hx hb dX5_about_26 (by decide) ?_
  refine lv_istore_n (lv' := [(3, .int (nI 1)), (2, .int (nI 0)), (0, .ref (ad 77)), (1, .int (nI 6))]) hx hb dX5_about_27 rfl hl (by decide) rfl (fun ls hl => ?_)
  refine k5_about_loop hC hA (nI 0) n t cl qu en kp hs dz oz hn hqu 6 (by decide) dl ou (fun i => ⟨(hle i).1, (hle i).2.1⟩) hdo hc_5 hc_6 hc_7 (fun ls H locs hw hl => ?_) n 0 ls H locs (by omega) hw (lv_sub hl [2, 3, 1, 0] rfl)
  refine lv_iload_n hx hb dX5_about_95 rfl (lv_at hl 1 rfl) ?_
  refine lv_tableIn (x := nI 6) (off := 64) (tgt := 160) hx hb dX5_about_96 (by decide) (by decide) (by decide) (by decide) ?_
  refine lv_aload_n hx hb dX5_about_160 rfl (lv_at hl 0 rfl) ?_
  refine gf_X5_75 hx hb hts hown hw (by decide) hc_5 rfl dX5_about_161 ?_
  have hfr : ∀ z, z ≠ 77 → w_4 z = w z := fun z hhfr0 => by rw [hu_3, va_up_ne _ _ hhfr0]
  exact x_wretI hx hb hr hlocks hw ⟨fun z hz => hfr z (by omega), RM.set77 hRM hfr hc_5⟩ dX5_about_164
set_option maxHeartbeats 4000000 in
set_option maxRecDepth 100000 in
theorem m_about7 (l : Launch) {D : va_G} {cI cJ cZ cD : ClassId} {ad : Nat → Nat} {w : Nat → va_E} {sz : Nat} (n t cl qu en kp : Nat) (dl ou cp ks pt : Nat → Nat) (co sh : Nat → Nat → Nat) (vs : Nat → Int64) (cd : Int32) (hok : OkS n t cl qu en kp dl ou cp ks pt co sh) (hRM : RM ad cJ cZ w cd n t cl qu en kp dl ou cp ks pt co sh vs)  : MW l yX5_about (.code yX5_about cX5_about 4 (some .int)) ({ frames := 1, cells := 0, slots := 0, locals := 32 }) [.ref (ad 77), .int (nI 7)] D (tyL cI cJ cZ cD) ad 89 w sz (some (.int (nI en))) (fun u => (∀ z, z < 77 ∨ 87 < z → u z = w z) ∧ RM ad cJ cZ u (nI 0) n t cl qu en kp dl ou cp ks pt co sh vs) := by
  refine MW.of (by decide) (Nat.le_of_ble_eq_true rfl) ?_
  intro p e s m below meth c ls hC hr hlocks hl hw
  obtain ⟨hx, hb, hml, hown, hts⟩ := id hC
  have hA : ∀ q, s.heap.size ≤ q → xA ad 89 s.heap.size q := fun q h => Or.inr h
  have hl : lv_has ls 4 [(0, .ref (ad 77)), (1, .int (nI 7))] := hl
  obtain ⟨⟨hs, hM⟩, ⟨dz, oz, hDz, hOz, hdo⟩, ⟨cf, mf, sf, hCf, hMf, hSf, hcs⟩, ⟨xf, hXf, hxx⟩, ⟨kyf, swf, hKy, hSw, hks⟩, ⟨vlf, hVl, hvl⟩, ⟨plf, hPl, hpl⟩⟩ := id hRM
  obtain ⟨⟨hn, ht, hcl, hqu, hen, hkp⟩, hle, ⟨hqb, hkb, hcb⟩, hvals, hclv, hptl, ⟨hz1, hz2, hz3⟩⟩ := id hok
  refine lv_aload_n hx hb dX5_about_0 rfl (lv_at hl 0 rfl) ?_
  refine lv_iload_n hx hb dX5_about_1 rfl (lv_at hl 1 rfl) ?_
  refine lv_if_lt (tgt := 11) hx hb dX5_about_2 (by decide) (fun q_1 => absurd q_1 (by decide)) (fun q_1 => ?_)
  refine lv_iload_n hx hb dX5_about_5 rfl (lv_at hl 1 rfl) ?_
  refine lv_bipush (v := nI 7) hx hb dX5_about_6 (by decide) ?_
  refine lv_icmp_le (tgt := 15) hx hb dX5_about_8 (by decide) (fun q_2 => ?_) (fun q_2 => absurd (by decide) q_2)
  refine lv_iconst (v := nI 0) hx hb dX5_about_15 (by decide) ?_
  refine x_callW1 (As := [.int (nI 0)]) (rest := []) hC vf_X5_64 hw hA (by decide) hM rfl rfl (k5_refuses0 l _ _ _ _ _ _ _ _ hM) ⟨rfl, rfl, Nat.le_of_ble_eq_true rfl, Nat.le_of_ble_eq_true rfl⟩ hl.1 (Nat.le_of_ble_eq_true rfl) dX5_about_16 ⟨Nat.zero_le _, Nat.zero_le _⟩ rfl (fun w_4 H locs hu_3 hw => ?_)
  have hc_5 : w_4 77 = .inr (4, [.int (nI 0), .int (nI n), .int (nI t), .int (nI cl), .ref (ad 78), .ref (ad 79), .ref (ad 80), .ref (ad 81), .ref (ad 82), .ref (ad 83), .int (nI qu), .ref (ad 84), .ref (ad 85), .ref (ad 86), .int (nI en), .int (nI kp), .ref (ad 87), .long hs]) := by rw [hu_3]; exact va_up_self _ _ _
  have hc_6 : w_4 78 = .inl (cZ, 17, .inl dz) := by rw [hu_3, va_up_ne _ _ (by decide)]; exact hDz
  have hc_7 : w_4 79 = .inl (cZ, 17, .inl oz) := by rw [hu_3, va_up_ne _ _ (by decide)]; exact hOz
  have hc_8 : w_4 80 = .inl (cJ, 289, .inr (.inl cf)) := by rw [hu_3, va_up_ne _ _ (by decide)]; exact hCf
  have hc_9 : w_4 81 = .inl (cJ, 289, .inr (.inl mf)) := by rw [hu_3, va_up_ne _ _ (by decide)]; exact hMf
  have hc_10 : w_4 82 = .inl (cJ, 289, .inr (.inl sf)) := by rw [hu_3, va_up_ne _ _ (by decide)]; exact hSf
  have hc_11 : w_4 83 = .inl (cZ, 289, .inl xf) := by rw [hu_3, va_up_ne _ _ (by decide)]; exact hXf
  have hc_12 : w_4 84 = .inl (cJ, 17, .inr (.inl kyf)) := by rw [hu_3, va_up_ne _ _ (by decide)]; exact hKy
  have hc_13 : w_4 85 = .inl (cJ, 17, .inr (.inl swf)) := by rw [hu_3, va_up_ne _ _ (by decide)]; exact hSw
  have hc_14 : w_4 86 = .inl (cJ, 301, .inr (.inl vlf)) := by rw [hu_3, va_up_ne _ _ (by decide)]; exact hVl
  have hc_15 : w_4 87 = .inl (cJ, 17, .inr (.inl plf)) := by rw [hu_3, va_up_ne _ _ (by decide)]; exact hPl
  refine lv_if_eq (tgt := 24) hx hb dX5_about_19 (by decide) (fun q_16 => ?_) (fun q_16 => absurd (by decide) q_16)
  refine lv_iconst (v := nI 0) hx hb dX5_about_24 (by decide) ?_
  refine lv_istore_n (lv' := [(2, .int (nI 0)), (0, .ref (ad 77)), (1, .int (nI 7))]) hx hb dX5_about_25 rfl hl (by decide) rfl (fun ls hl => ?_)
  refine lv_iconst (v := nI 1) hx hb dX5_about_26 (by decide) ?_
  refine lv_istore_n (lv' := [(3, .int (nI 1)), (2, .int (nI 0)), (0, .ref (ad 77)), (1, .int (nI 7))]) hx hb dX5_about_27 rfl hl (by decide) rfl (fun ls hl => ?_)
  refine k5_about_loop hC hA (nI 0) n t cl qu en kp hs dz oz hn hqu 7 (by decide) dl ou (fun i => ⟨(hle i).1, (hle i).2.1⟩) hdo hc_5 hc_6 hc_7 (fun ls H locs hw hl => ?_) n 0 ls H locs (by omega) hw (lv_sub hl [2, 3, 1, 0] rfl)
  refine lv_iload_n hx hb dX5_about_95 rfl (lv_at hl 1 rfl) ?_
  refine lv_tableIn (x := nI 7) (off := 69) (tgt := 165) hx hb dX5_about_96 (by decide) (by decide) (by decide) (by decide) ?_
  refine lv_aload_n hx hb dX5_about_165 rfl (lv_at hl 0 rfl) ?_
  refine gf_X5_78 hx hb hts hown hw (by decide) hc_5 rfl dX5_about_166 ?_
  have hfr : ∀ z, z ≠ 77 → w_4 z = w z := fun z hhfr0 => by rw [hu_3, va_up_ne _ _ hhfr0]
  exact x_wretI hx hb hr hlocks hw ⟨fun z hz => hfr z (by omega), RM.set77 hRM hfr hc_5⟩ dX5_about_169
set_option maxHeartbeats 4000000 in
set_option maxRecDepth 100000 in
theorem m_aboutA (l : Launch) {D : va_G} {cI cJ cZ cD : ClassId} {ad : Nat → Nat} {w : Nat → va_E} {sz : Nat} (n t cl qu en kp : Nat) (dl ou cp ks pt : Nat → Nat) (co sh : Nat → Nat → Nat) (vs : Nat → Int64) (cd : Int32) (hok : OkS n t cl qu en kp dl ou cp ks pt co sh) (hRM : RM ad cJ cZ w cd n t cl qu en kp dl ou cp ks pt co sh vs) (x : Int32) (hbad : x < 0 ∨ ¬ x ≤ nI 7)  : MW l yX5_about (.code yX5_about cX5_about 4 (some .int)) ({ frames := 1, cells := 0, slots := 0, locals := 32 }) [.ref (ad 77), .int x] D (tyL cI cJ cZ cD) ad 89 w sz (some (.int (nI 0))) (fun u => (∀ z, z < 77 ∨ 87 < z → u z = w z) ∧ RM ad cJ cZ u (nI 1) n t cl qu en kp dl ou cp ks pt co sh vs) := by
  refine MW.of (by decide) (Nat.le_of_ble_eq_true rfl) ?_
  intro p e s m below meth c ls hC hr hlocks hl hw
  obtain ⟨hx, hb, hml, hown, hts⟩ := id hC
  have hA : ∀ q, s.heap.size ≤ q → xA ad 89 s.heap.size q := fun q h => Or.inr h
  have hl : lv_has ls 4 [(0, .ref (ad 77)), (1, .int x)] := hl
  obtain ⟨⟨hs, hM⟩, ⟨dz, oz, hDz, hOz, hdo⟩, ⟨cf, mf, sf, hCf, hMf, hSf, hcs⟩, ⟨xf, hXf, hxx⟩, ⟨kyf, swf, hKy, hSw, hks⟩, ⟨vlf, hVl, hvl⟩, ⟨plf, hPl, hpl⟩⟩ := id hRM
  obtain ⟨⟨hn, ht, hcl, hqu, hen, hkp⟩, hle, ⟨hqb, hkb, hcb⟩, hvals, hclv, hptl, ⟨hz1, hz2, hz3⟩⟩ := id hok
  refine lv_aload_n hx hb dX5_about_0 rfl (lv_at hl 0 rfl) ?_
  refine lv_iload_n hx hb dX5_about_1 rfl (lv_at hl 1 rfl) ?_
  refine lv_if_lt (tgt := 11) hx hb dX5_about_2 (by decide) (fun q1 => ?_) (fun q1 => ?_)
  · skip
    refine lv_iconst (v := nI 1) hx hb dX5_about_11 (by decide) ?_
    refine lv_goto (tgt := 16) hx hb dX5_about_12 (by decide) ?_
    refine x_callW1 (As := [.int (nI 1)]) (rest := []) hC vf_X5_64 hw hA (by decide) hM rfl rfl (k5_refuses1 l _ _ _ _ _ _ _ _ hM) ⟨rfl, rfl, Nat.le_of_ble_eq_true rfl, Nat.le_of_ble_eq_true rfl⟩ hl.1 (Nat.le_of_ble_eq_true rfl) dX5_about_16 ⟨Nat.zero_le _, Nat.zero_le _⟩ rfl (fun w_2 H locs hu_1 hw => ?_)
    have hc_3 : w_2 77 = .inr (4, [.int (nI 1), .int (nI n), .int (nI t), .int (nI cl), .ref (ad 78), .ref (ad 79), .ref (ad 80), .ref (ad 81), .ref (ad 82), .ref (ad 83), .int (nI qu), .ref (ad 84), .ref (ad 85), .ref (ad 86), .int (nI en), .int (nI kp), .ref (ad 87), .long hs]) := by rw [hu_1]; exact va_up_self _ _ _
    have hc_4 : w_2 78 = .inl (cZ, 17, .inl dz) := by rw [hu_1, va_up_ne _ _ (by decide)]; exact hDz
    have hc_5 : w_2 79 = .inl (cZ, 17, .inl oz) := by rw [hu_1, va_up_ne _ _ (by decide)]; exact hOz
    have hc_6 : w_2 80 = .inl (cJ, 289, .inr (.inl cf)) := by rw [hu_1, va_up_ne _ _ (by decide)]; exact hCf
    have hc_7 : w_2 81 = .inl (cJ, 289, .inr (.inl mf)) := by rw [hu_1, va_up_ne _ _ (by decide)]; exact hMf
    have hc_8 : w_2 82 = .inl (cJ, 289, .inr (.inl sf)) := by rw [hu_1, va_up_ne _ _ (by decide)]; exact hSf
    have hc_9 : w_2 83 = .inl (cZ, 289, .inl xf) := by rw [hu_1, va_up_ne _ _ (by decide)]; exact hXf
    have hc_10 : w_2 84 = .inl (cJ, 17, .inr (.inl kyf)) := by rw [hu_1, va_up_ne _ _ (by decide)]; exact hKy
    have hc_11 : w_2 85 = .inl (cJ, 17, .inr (.inl swf)) := by rw [hu_1, va_up_ne _ _ (by decide)]; exact hSw
    have hc_12 : w_2 86 = .inl (cJ, 301, .inr (.inl vlf)) := by rw [hu_1, va_up_ne _ _ (by decide)]; exact hVl
    have hc_13 : w_2 87 = .inl (cJ, 17, .inr (.inl plf)) := by rw [hu_1, va_up_ne _ _ (by decide)]; exact hPl
    refine lv_if_eq (tgt := 24) hx hb dX5_about_19 (by decide) (fun q_14 => absurd q_14 (by decide)) (fun q_14 => ?_)
    refine lv_iconst (v := nI 0) hx hb dX5_about_22 (by decide) ?_
    have hfr : ∀ z, z ≠ 77 → w_2 z = w z := fun z hhfr0 => by rw [hu_1, va_up_ne _ _ hhfr0]
    exact x_wretI hx hb hr hlocks hw ⟨fun z hz => hfr z (by omega), RM.set77 hRM hfr hc_3⟩ dX5_about_23
  · skip
    refine lv_iload_n hx hb dX5_about_5 rfl (lv_at hl 1 rfl) ?_
    refine lv_bipush (v := nI 7) hx hb dX5_about_6 (by decide) ?_
    refine lv_icmp_le (tgt := 15) hx hb dX5_about_8 (by decide) (fun q2 => absurd q2 (hbad.resolve_left q1)) (fun q2 => ?_)
    refine lv_iconst (v := nI 1) hx hb dX5_about_11 (by decide) ?_
    refine lv_goto (tgt := 16) hx hb dX5_about_12 (by decide) ?_
    refine x_callW1 (As := [.int (nI 1)]) (rest := []) hC vf_X5_64 hw hA (by decide) hM rfl rfl (k5_refuses1 l _ _ _ _ _ _ _ _ hM) ⟨rfl, rfl, Nat.le_of_ble_eq_true rfl, Nat.le_of_ble_eq_true rfl⟩ hl.1 (Nat.le_of_ble_eq_true rfl) dX5_about_16 ⟨Nat.zero_le _, Nat.zero_le _⟩ rfl (fun w_16 H locs hu_15 hw => ?_)
    have hc_17 : w_16 77 = .inr (4, [.int (nI 1), .int (nI n), .int (nI t), .int (nI cl), .ref (ad 78), .ref (ad 79), .ref (ad 80), .ref (ad 81), .ref (ad 82), .ref (ad 83), .int (nI qu), .ref (ad 84), .ref (ad 85), .ref (ad 86), .int (nI en), .int (nI kp), .ref (ad 87), .long hs]) := by rw [hu_15]; exact va_up_self _ _ _
    have hc_18 : w_16 78 = .inl (cZ, 17, .inl dz) := by rw [hu_15, va_up_ne _ _ (by decide)]; exact hDz
    have hc_19 : w_16 79 = .inl (cZ, 17, .inl oz) := by rw [hu_15, va_up_ne _ _ (by decide)]; exact hOz
    have hc_20 : w_16 80 = .inl (cJ, 289, .inr (.inl cf)) := by rw [hu_15, va_up_ne _ _ (by decide)]; exact hCf
    have hc_21 : w_16 81 = .inl (cJ, 289, .inr (.inl mf)) := by rw [hu_15, va_up_ne _ _ (by decide)]; exact hMf
    have hc_22 : w_16 82 = .inl (cJ, 289, .inr (.inl sf)) := by rw [hu_15, va_up_ne _ _ (by decide)]; exact hSf
    have hc_23 : w_16 83 = .inl (cZ, 289, .inl xf) := by rw [hu_15, va_up_ne _ _ (by decide)]; exact hXf
    have hc_24 : w_16 84 = .inl (cJ, 17, .inr (.inl kyf)) := by rw [hu_15, va_up_ne _ _ (by decide)]; exact hKy
    have hc_25 : w_16 85 = .inl (cJ, 17, .inr (.inl swf)) := by rw [hu_15, va_up_ne _ _ (by decide)]; exact hSw
    have hc_26 : w_16 86 = .inl (cJ, 301, .inr (.inl vlf)) := by rw [hu_15, va_up_ne _ _ (by decide)]; exact hVl
    have hc_27 : w_16 87 = .inl (cJ, 17, .inr (.inl plf)) := by rw [hu_15, va_up_ne _ _ (by decide)]; exact hPl
    refine lv_if_eq (tgt := 24) hx hb dX5_about_19 (by decide) (fun q_28 => absurd q_28 (by decide)) (fun q_28 => ?_)
    refine lv_iconst (v := nI 0) hx hb dX5_about_22 (by decide) ?_
    have hfr : ∀ z, z ≠ 77 → w_16 z = w z := fun z hhfr0 => by rw [hu_15, va_up_ne _ _ hhfr0]
    exact x_wretI hx hb hr hlocks hw ⟨fun z hz => hfr z (by omega), RM.set77 hRM hfr hc_17⟩ dX5_about_23
