/-! the reference: complaints, complain, close, key -/
def rc (cp : Nat → Nat) (d i k : Nat) : Nat := if d = 0 ∨ d = i then tb (cp i) k else 0
theorem rc_le (cp : Nat → Nat) (d i k : Nat) : rc cp d i k ≤ 1 := by
  unfold rc
  have := tb_lt (cp i) k
  split <;> omega
def rct (cp : Nat → Nat) (d n : Nat) (i : Nat) : Nat := cnt (rc cp d i) n
theorem rct_le (cp : Nat → Nat) (d n i : Nat) : rct cp d n i ≤ n := by
  have := cnt_le (f := rc cp d i) (b := 1) (fun k => rc_le cp d i k) n
  unfold rct
  omega
theorem rct_0 {cp : Nat → Nat} {n : Nat} (hn : n ≤ 16) (h : ∀ i k, tb (cp i) k = 1 → 1 ≤ k ∧ k ≤ n) : cnt (rct cp 0 n) n = cnt (fun i => pcN (cp i)) n := by
  apply cnt_congr
  intro i _ _
  rw [← pc_cnt hn (h i)]
  exact cnt_congr n (fun k _ _ => if_pos (Or.inl rfl))
theorem cnt_zero {f : Nat → Nat} (n : Nat) (h : ∀ i, 1 ≤ i → i ≤ n → f i = 0) : cnt f n = 0 := by
  have h1 := cnt_ext (f := f) (n := 0) n (fun k h1 h2 => h k (by omega) (by omega))
  rw [Nat.zero_add] at h1
  exact h1
theorem cnt_one {f : Nat → Nat} {d : Nat} : ∀ n, 1 ≤ d → d ≤ n → (∀ i, i ≠ d → f i = 0) → cnt f n = f d := by
  intro n
  induction n with
  | zero => intro h1 h2; omega
  | succ n ih =>
    intro h1 h2 h
    show cnt f n + f (n + 1) = f d
    by_cases hd : d = n + 1
    · subst hd; rw [cnt_zero n (fun i _ h4 => h i (by omega))]; omega
    · rw [ih h1 (by omega) h, h (n + 1) (by omega)]; rfl
theorem rct_d {cp : Nat → Nat} {n d : Nat} (h1 : 1 ≤ d) (h2 : d ≤ n) : cnt (rct cp d n) n = cnt (tb (cp d)) n := by
  rw [cnt_one (f := rct cp d n) n h1 h2 (fun i hi => cnt_zero (f := rc cp d i) n (fun k _ _ => if_neg (by omega)))]
  exact cnt_congr n (fun k _ _ => if_pos (Or.inr rfl))
theorem or_z (a : Nat) : nI a ||| nI 0 = nI a := by
  apply Int32.toBitVec_inj.mp
  rw [Int32.toBitVec_or]
  show BitVec.ofNat 32 a ||| BitVec.ofNat 32 0 = BitVec.ofNat 32 a
  simp
theorem z_or (a : Nat) : nI 0 ||| nI a = nI a := by
  apply Int32.toBitVec_inj.mp
  rw [Int32.toBitVec_or]
  show BitVec.ofNat 32 0 ||| BitVec.ofNat 32 a = BitVec.ofNat 32 a
  simp

set_option maxHeartbeats 4000000 in
set_option maxRecDepth 100000 in
theorem k5_compl_in {l : Launch} {p : Program} {e : Env} {s : State} {m : MethodId} {args : Array Value} {below : List Frame} {meth : Method} {c : Code} {Q : State → Prop} {D : va_G} {cI cJ cZ cD : ClassId} {ad : Nat → Nat} {A : Nat → Prop} {H0 : Heap} {w : Nat → va_E} (hC : CallFix p m c cX5_complaints 5 s args wsL_law RX5) (hA : ∀ q, H0.size ≤ q → A q) (cd : Int32) (n t cl qu en kp : Nat) (hs : Int64) (xf : Nat → Int32) (hn : n ≤ 16) (cp : Nat → Nat) (hxx : ∀ i k, i < 17 → k < 17 → xf (17 * i + k) = nI (tb (cp i) k)) (d : Nat) (hd : d ≤ 16) (i : Nat) (hi : i ≤ 16) (A0 : Nat) (hA0 : A0 ≤ 300) (hM : w 77 = .inr (4, [.int cd, .int (nI n), .int (nI t), .int (nI cl), .ref (ad 78), .ref (ad 79), .ref (ad 80), .ref (ad 81), .ref (ad 82), .ref (ad 83), .int (nI qu), .ref (ad 84), .ref (ad 85), .ref (ad 86), .int (nI en), .int (nI kp), .ref (ad 87), .long hs])) (hXf : w 83 = .inl (cZ, 289, .inl xf))
    (kx : ∀  (ls : Array Slot) (H : Heap) (locs : List Loc),  WW D vwCl (tyL cI cJ cZ cD) A H0 ad 89 w s H locs → lv_has ls 5 [(0, .ref (ad 77)), (1, .int (nI d)), (2, .int (nI (A0 + cnt (rc cp d i) n))), (3, .int (nI i))] → W p l e ({ frames := 0, cells := 0, slots := 0, locals := 0 }) s m args below meth c H locs 0 0 Q (F0 m 62 ls [])) :
    ∀ (j q : Nat)  (ls : Array Slot) (H : Heap) (locs : List Loc), q + j = n →  WW D vwCl (tyL cI cJ cZ cD) A H0 ad 89 w s H locs → lv_has ls 5 [(0, .ref (ad 77)), (1, .int (nI d)), (2, .int (nI (A0 + cnt (rc cp d i) q))), (3, .int (nI i)), (4, .int (nI (q + 1)))] → W p l e ({ frames := 0, cells := 0, slots := 0, locals := 0 }) s m args below meth c H locs 0 0 Q (F0 m 15 ls []) := by
  obtain ⟨hx, hb, hml, hown, hts⟩ := id hC
  intro j
  induction j with
  | zero =>
    intro q  ls H locs hq  hw hl
    obtain rfl : n = q := by omega
    have hl : lv_has ls 5 [(0, .ref (ad 77)), (1, .int (nI d)), (2, .int (nI (A0 + cnt (rc cp d i) n))), (3, .int (nI i)), (4, .int (nI (n + 1)))] := hl
    refine lv_iload hx hb dX5_complaints_15 (lv_at hl 4 rfl) ?_
    refine lv_aload_n hx hb dX5_complaints_17 rfl (lv_at hl 0 rfl) ?_
    refine gf_X5_59 hx hb hts hown hw (by decide) hM rfl dX5_complaints_18 ?_
    refine lv_icmp_gt (tgt := 62) hx hb dX5_complaints_21 (by decide) (fun hc => ?_) (fun hc => absurd (nI_lt (by omega) (by omega)) hc)
    exact kx  ls H locs  hw (lv_sub hl [0, 1, 2, 3] rfl)
  | succ j ih =>
    intro q  ls H locs hq  hw hl
    refine lv_iload hx hb dX5_complaints_15 (lv_at hl 4 rfl) ?_
    refine lv_aload_n hx hb dX5_complaints_17 rfl (lv_at hl 0 rfl) ?_
    refine gf_X5_59 hx hb hts hown hw (by decide) hM rfl dX5_complaints_18 ?_
    refine lv_icmp_gt (tgt := 62) hx hb dX5_complaints_21 (by decide) (fun hc => absurd hc (nI_nlt (by omega) (by omega))) (fun hc => ?_)
    have hcl := cnt_le (f := rc cp d i) (b := 1) (fun k => rc_le cp d i k) q
    have htb := tb_lt (cp i) (q + 1)
    refine lv_iload_n hx hb dX5_complaints_24 rfl (lv_at hl 2 rfl) ?_
    refine lv_aload_n hx hb dX5_complaints_25 rfl (lv_at hl 0 rfl) ?_
    refine gf_X5_26 hx hb hts hown hw (by decide) hM rfl dX5_complaints_26 ?_
    refine lv_bipush (v := nI 17) hx hb dX5_complaints_29 (by decide) ?_
    refine lv_iload_n hx hb dX5_complaints_31 rfl (lv_at hl 3 rfl) ?_
    refine t_imul hx hb dX5_complaints_32 (v := nI (17 * i)) (pk_mul _ _) ?_
    refine lv_iload hx hb dX5_complaints_33 (lv_at hl 4 rfl) ?_
    refine t_iadd hx hb dX5_complaints_35 (v := nI (17 * i + (q + 1))) (nI_add _ _) ?_
    refine x_zald hx hb hw (by decide) 2 hXf rfl (j := 17 * i + (q + 1)) (by omega) (by decide) (hxx i (q + 1) (by omega) (by omega)) dX5_complaints_36 ?_
    refine lv_if_eq (tgt := 53) hx hb dX5_complaints_37 (by decide) (fun h1 => ?_) (fun h1 => ?_)
    · rw [nI_z (by omega)] at h1
      refine lv_iconst (v := nI 0) hx hb dX5_complaints_53 (by decide) ?_
      refine t_iadd hx hb dX5_complaints_54 (v := nI (A0 + cnt (rc cp d i) q + 0)) (nI_add _ _) ?_
      refine lv_istore_n (lv' := [(2, .int (nI (A0 + cnt (rc cp d i) q + 0))), (0, .ref (ad 77)), (1, .int (nI d)), (3, .int (nI i)), (4, .int (nI (q + 1)))]) hx hb dX5_complaints_55 rfl hl (by decide) rfl (fun ls hl => ?_)
      refine lv_iinc (v := nI (q + 1 + 1)) (lv' := [(4, .int (nI (q + 1 + 1))), (2, .int (nI (A0 + cnt (rc cp d i) q + 0))), (0, .ref (ad 77)), (1, .int (nI d)), (3, .int (nI i))]) hx hb dX5_complaints_56 hl (k := 4) rfl (nI_1 (q + 1)) (by decide) rfl (fun ls hl => ?_)
      refine lv_goto (tgt := 15) hx hb dX5_complaints_59 (by decide) ?_
      refine ih (q + 1)  ls H locs (by omega)  hw (lv_sub hl [2, 3, 1, 4, 0] (by rw [show A0 + cnt (rc cp d i) (q + 1) = A0 + cnt (rc cp d i) q + 0 from by show A0 + (cnt (rc cp d i) q + rc cp d i (q + 1)) = _; rw [show rc cp d i (q + 1) = 0 from by unfold rc; split <;> omega]; rfl]; rfl))
    · rw [nI_z (by omega)] at h1
      have h1 : tb (cp i) (q + 1) = 1 := by omega
      refine lv_iload_n hx hb dX5_complaints_40 rfl (lv_at hl 1 rfl) ?_
      refine lv_if_eq (tgt := 49) hx hb dX5_complaints_41 (by decide) (fun h2 => ?_) (fun h2 => ?_)
      · rw [nI_z (by omega)] at h2
        refine lv_iconst (v := nI 1) hx hb dX5_complaints_49 (by decide) ?_
        refine lv_goto (tgt := 54) hx hb dX5_complaints_50 (by decide) ?_
        refine t_iadd hx hb dX5_complaints_54 (v := nI (A0 + cnt (rc cp d i) q + 1)) (nI_add _ _) ?_
        refine lv_istore_n (lv' := [(2, .int (nI (A0 + cnt (rc cp d i) q + 1))), (0, .ref (ad 77)), (1, .int (nI d)), (3, .int (nI i)), (4, .int (nI (q + 1)))]) hx hb dX5_complaints_55 rfl hl (by decide) rfl (fun ls hl => ?_)
        refine lv_iinc (v := nI (q + 1 + 1)) (lv' := [(4, .int (nI (q + 1 + 1))), (2, .int (nI (A0 + cnt (rc cp d i) q + 1))), (0, .ref (ad 77)), (1, .int (nI d)), (3, .int (nI i))]) hx hb dX5_complaints_56 hl (k := 4) rfl (nI_1 (q + 1)) (by decide) rfl (fun ls hl => ?_)
        refine lv_goto (tgt := 15) hx hb dX5_complaints_59 (by decide) ?_
        refine ih (q + 1)  ls H locs (by omega)  hw (lv_sub hl [2, 3, 1, 4, 0] (by rw [show A0 + cnt (rc cp d i) (q + 1) = A0 + cnt (rc cp d i) q + 1 from by show A0 + (cnt (rc cp d i) q + rc cp d i (q + 1)) = _; rw [show rc cp d i (q + 1) = 1 from (if_pos (Or.inl h2)).trans h1]; rfl]; rfl))
      · rw [nI_z (by omega)] at h2
        refine lv_iload_n hx hb dX5_complaints_44 rfl (lv_at hl 1 rfl) ?_
        refine lv_iload_n hx hb dX5_complaints_45 rfl (lv_at hl 3 rfl) ?_
        refine lv_icmp_ne (tgt := 53) hx hb dX5_complaints_46 (by decide) (fun h3 => ?_) (fun h3 => ?_)
        · rw [nI_eq (by omega) (by omega)] at h3
          refine lv_iconst (v := nI 0) hx hb dX5_complaints_53 (by decide) ?_
          refine t_iadd hx hb dX5_complaints_54 (v := nI (A0 + cnt (rc cp d i) q + 0)) (nI_add _ _) ?_
          refine lv_istore_n (lv' := [(2, .int (nI (A0 + cnt (rc cp d i) q + 0))), (0, .ref (ad 77)), (1, .int (nI d)), (3, .int (nI i)), (4, .int (nI (q + 1)))]) hx hb dX5_complaints_55 rfl hl (by decide) rfl (fun ls hl => ?_)
          refine lv_iinc (v := nI (q + 1 + 1)) (lv' := [(4, .int (nI (q + 1 + 1))), (2, .int (nI (A0 + cnt (rc cp d i) q + 0))), (0, .ref (ad 77)), (1, .int (nI d)), (3, .int (nI i))]) hx hb dX5_complaints_56 hl (k := 4) rfl (nI_1 (q + 1)) (by decide) rfl (fun ls hl => ?_)
          refine lv_goto (tgt := 15) hx hb dX5_complaints_59 (by decide) ?_
          refine ih (q + 1)  ls H locs (by omega)  hw (lv_sub hl [2, 3, 1, 4, 0] (by rw [show A0 + cnt (rc cp d i) (q + 1) = A0 + cnt (rc cp d i) q + 0 from by show A0 + (cnt (rc cp d i) q + rc cp d i (q + 1)) = _; rw [show rc cp d i (q + 1) = 0 from if_neg (by omega)]; rfl]; rfl))
        · rw [nI_eq (by omega) (by omega)] at h3
          refine lv_iconst (v := nI 1) hx hb dX5_complaints_49 (by decide) ?_
          refine lv_goto (tgt := 54) hx hb dX5_complaints_50 (by decide) ?_
          refine t_iadd hx hb dX5_complaints_54 (v := nI (A0 + cnt (rc cp d i) q + 1)) (nI_add _ _) ?_
          refine lv_istore_n (lv' := [(2, .int (nI (A0 + cnt (rc cp d i) q + 1))), (0, .ref (ad 77)), (1, .int (nI d)), (3, .int (nI i)), (4, .int (nI (q + 1)))]) hx hb dX5_complaints_55 rfl hl (by decide) rfl (fun ls hl => ?_)
          refine lv_iinc (v := nI (q + 1 + 1)) (lv' := [(4, .int (nI (q + 1 + 1))), (2, .int (nI (A0 + cnt (rc cp d i) q + 1))), (0, .ref (ad 77)), (1, .int (nI d)), (3, .int (nI i))]) hx hb dX5_complaints_56 hl (k := 4) rfl (nI_1 (q + 1)) (by decide) rfl (fun ls hl => ?_)
          refine lv_goto (tgt := 15) hx hb dX5_complaints_59 (by decide) ?_
          refine ih (q + 1)  ls H locs (by omega)  hw (lv_sub hl [2, 3, 1, 4, 0] (by rw [show A0 + cnt (rc cp d i) (q + 1) = A0 + cnt (rc cp d i) q + 1 from by show A0 + (cnt (rc cp d i) q + rc cp d i (q + 1)) = _; rw [show rc cp d i (q + 1) = 1 from (if_pos (Or.inr h3)).trans h1]; rfl]; rfl))
set_option maxHeartbeats 4000000 in
set_option maxRecDepth 100000 in
theorem k5_compl_out {l : Launch} {p : Program} {e : Env} {s : State} {m : MethodId} {args : Array Value} {below : List Frame} {meth : Method} {c : Code} {Q : State → Prop} {D : va_G} {cI cJ cZ cD : ClassId} {ad : Nat → Nat} {A : Nat → Prop} {H0 : Heap} {w : Nat → va_E} (hC : CallFix p m c cX5_complaints 5 s args wsL_law RX5) (hA : ∀ q, H0.size ≤ q → A q) (cd : Int32) (n t cl qu en kp : Nat) (hs : Int64) (xf : Nat → Int32) (hn : n ≤ 16) (cp : Nat → Nat) (hxx : ∀ i k, i < 17 → k < 17 → xf (17 * i + k) = nI (tb (cp i) k)) (d : Nat) (hd : d ≤ 16) (hM : w 77 = .inr (4, [.int cd, .int (nI n), .int (nI t), .int (nI cl), .ref (ad 78), .ref (ad 79), .ref (ad 80), .ref (ad 81), .ref (ad 82), .ref (ad 83), .int (nI qu), .ref (ad 84), .ref (ad 85), .ref (ad 86), .int (nI en), .int (nI kp), .ref (ad 87), .long hs])) (hXf : w 83 = .inl (cZ, 289, .inl xf))
    (kx : ∀  (ls : Array Slot) (H : Heap) (locs : List Loc),  WW D vwCl (tyL cI cJ cZ cD) A H0 ad 89 w s H locs → lv_has ls 5 [(2, .int (nI (cnt (rct cp d n) n)))] → W p l e ({ frames := 0, cells := 0, slots := 0, locals := 0 }) s m args below meth c H locs 0 0 Q (F0 m 68 ls [])) :
    ∀ (j q : Nat)  (ls : Array Slot) (H : Heap) (locs : List Loc), q + j = n →  WW D vwCl (tyL cI cJ cZ cD) A H0 ad 89 w s H locs → lv_has ls 5 [(0, .ref (ad 77)), (1, .int (nI d)), (2, .int (nI (cnt (rct cp d n) q))), (3, .int (nI (q + 1)))] → W p l e ({ frames := 0, cells := 0, slots := 0, locals := 0 }) s m args below meth c H locs 0 0 Q (F0 m 4 ls []) := by
  obtain ⟨hx, hb, hml, hown, hts⟩ := id hC
  intro j
  induction j with
  | zero =>
    intro q  ls H locs hq  hw hl
    obtain rfl : n = q := by omega
    have hl : lv_has ls 5 [(0, .ref (ad 77)), (1, .int (nI d)), (2, .int (nI (cnt (rct cp d n) n))), (3, .int (nI (n + 1)))] := hl
    refine lv_iload_n hx hb dX5_complaints_4 rfl (lv_at hl 3 rfl) ?_
    refine lv_aload_n hx hb dX5_complaints_5 rfl (lv_at hl 0 rfl) ?_
    refine gf_X5_59 hx hb hts hown hw (by decide) hM rfl dX5_complaints_6 ?_
    refine lv_icmp_gt (tgt := 68) hx hb dX5_complaints_9 (by decide) (fun hc => ?_) (fun hc => absurd (nI_lt (by omega) (by omega)) hc)
    exact kx  ls H locs  hw (lv_sub hl [2] rfl)
  | succ j ih =>
    intro q  ls H locs hq  hw hl
    refine lv_iload_n hx hb dX5_complaints_4 rfl (lv_at hl 3 rfl) ?_
    refine lv_aload_n hx hb dX5_complaints_5 rfl (lv_at hl 0 rfl) ?_
    refine gf_X5_59 hx hb hts hown hw (by decide) hM rfl dX5_complaints_6 ?_
    refine lv_icmp_gt (tgt := 68) hx hb dX5_complaints_9 (by decide) (fun hc => absurd hc (nI_nlt (by omega) (by omega))) (fun hc => ?_)
    have hcl := cnt_le (f := rct cp d n) (b := n) (fun k => rct_le cp d n k) q
    have hqn : q * n ≤ 16 * 16 := Nat.mul_le_mul (by omega) hn
    refine lv_iconst (v := nI 1) hx hb dX5_complaints_12 (by decide) ?_
    refine lv_istore (lv' := [(4, .int (nI 1)), (0, .ref (ad 77)), (1, .int (nI d)), (2, .int (nI (cnt (rct cp d n) q))), (3, .int (nI (q + 1)))]) hx hb dX5_complaints_13 hl (by decide) rfl (fun ls hl => ?_)
    refine k5_compl_in hC hA cd n t cl qu en kp hs xf hn cp hxx d hd (q + 1) (by omega) (cnt (rct cp d n) q) (by omega) hM hXf (fun ls H locs hw hl => ?_) n 0 ls H locs (by omega) hw (lv_sub hl [1, 2, 3, 4, 0] rfl)
    refine lv_iinc (v := nI (q + 1 + 1)) (lv' := [(3, .int (nI (q + 1 + 1))), (0, .ref (ad 77)), (1, .int (nI d)), (2, .int (nI (cnt (rct cp d n) q + cnt (rc cp d (q + 1)) n)))]) hx hb dX5_complaints_62 hl (k := 3) rfl (nI_1 (q + 1)) (by decide) rfl (fun ls hl => ?_)
    refine lv_goto (tgt := 4) hx hb dX5_complaints_65 (by decide) ?_
    refine ih (q + 1)  ls H locs (by omega)  hw (lv_sub hl [1, 2, 3, 0] rfl)
set_option maxHeartbeats 4000000 in
set_option maxRecDepth 100000 in
theorem k5_complaints (l : Launch) {D : va_G} {cI cJ cZ cD : ClassId} {ad : Nat → Nat} {w : Nat → va_E} {sz : Nat} (cd : Int32) (n t cl qu en kp : Nat) (hs : Int64) (xf : Nat → Int32) (hn : n ≤ 16) (cp : Nat → Nat) (hxx : ∀ i k, i < 17 → k < 17 → xf (17 * i + k) = nI (tb (cp i) k)) (d : Nat) (hd : d ≤ 16)  (hM : w 77 = .inr (4, [.int cd, .int (nI n), .int (nI t), .int (nI cl), .ref (ad 78), .ref (ad 79), .ref (ad 80), .ref (ad 81), .ref (ad 82), .ref (ad 83), .int (nI qu), .ref (ad 84), .ref (ad 85), .ref (ad 86), .int (nI en), .int (nI kp), .ref (ad 87), .long hs])) (hXf : w 83 = .inl (cZ, 289, .inl xf)) : MW l yX5_complaints (.code yX5_complaints cX5_complaints 5 (some .int)) ({ frames := 0, cells := 0, slots := 0, locals := 0 }) [.ref (ad 77), .int (nI d)] D (tyL cI cJ cZ cD) ad 89 w sz (some (.int (nI (cnt (rct cp d n) n)))) (fun u => u = w) := by
  refine MW.of (by decide) (Nat.le_of_ble_eq_true rfl) ?_
  intro p e s m below meth c ls hC hr hlocks hl hw
  obtain ⟨hx, hb, hml, hown, hts⟩ := id hC
  have hA : ∀ q, s.heap.size ≤ q → xA ad 89 s.heap.size q := fun q h => Or.inr h
  have hl : lv_has ls 5 [(0, .ref (ad 77)), (1, .int (nI d))] := hl
  refine lv_iconst (v := nI 0) hx hb dX5_complaints_0 (by decide) ?_
  refine lv_istore_n (lv' := [(2, .int (nI 0)), (0, .ref (ad 77)), (1, .int (nI d))]) hx hb dX5_complaints_1 rfl hl (by decide) rfl (fun ls hl => ?_)
  refine lv_iconst (v := nI 1) hx hb dX5_complaints_2 (by decide) ?_
  refine lv_istore_n (lv' := [(3, .int (nI 1)), (2, .int (nI 0)), (0, .ref (ad 77)), (1, .int (nI d))]) hx hb dX5_complaints_3 rfl hl (by decide) rfl (fun ls hl => ?_)
  refine k5_compl_out hC hA cd n t cl qu en kp hs xf hn cp hxx d hd hM hXf (fun ls H locs hw hl => ?_) n 0 ls s.heap [] (by omega) hw (lv_sub hl [2, 3, 1, 0] rfl)
  refine lv_iload_n hx hb dX5_complaints_68 rfl (lv_at hl 0 rfl) ?_
  exact x_wretI hx hb hr hlocks hw rfl dX5_complaints_69
theorem gath_tb1 {cp : Nat} {s r : Nat → Nat} {q k : Nat} (h : k ≠ q + 1) : tb (gath cp s r (q + 1)) k = tb (gath cp s r q) k := by
  show tb (if _ then _ else _) k = _
  by_cases hc : s (q + 1) = r (q + 1)
  · rw [if_pos hc]
  · rw [if_neg hc, tb_or, if_neg h]
theorem gath_one {cp : Nat} {s r : Nat → Nat} {q : Nat} (h : tb (gath cp s r q) (q + 1) = 1) : tb (gath cp s r (q + 1)) (q + 1) = 1 := by
  show tb (if _ then _ else _) _ = _
  by_cases hc : s (q + 1) = r (q + 1)
  · rw [if_pos hc]; exact h
  · rw [if_neg hc, tb_or, if_pos rfl]
theorem gath_eq {cp : Nat} {s r : Nat → Nat} {q : Nat} (h : s (q + 1) = r (q + 1)) : gath cp s r (q + 1) = gath cp s r q := if_pos h
theorem gath_ne {cp : Nat} {s r : Nat → Nat} {q : Nat} (h : ¬ s (q + 1) = r (q + 1)) : tb (gath cp s r (q + 1)) (q + 1) = 1 := by
  show tb (if _ then _ else _) _ = _
  rw [if_neg h, tb_or, if_pos rfl]

set_option maxHeartbeats 4000000 in
set_option maxRecDepth 100000 in
theorem k5_complain_in {l : Launch} {p : Program} {e : Env} {s : State} {m : MethodId} {args : Array Value} {below : List Frame} {meth : Method} {c : Code} {Q : State → Prop} {D : va_G} {cI cJ cZ cD : ClassId} {ad : Nat → Nat} {A : Nat → Prop} {H0 : Heap} {w0 : Nat → va_E} (hC : CallFix p m c cX5_complain 3 s args wsL_law RX5) (hA : ∀ q, H0.size ≤ q → A q) (cd : Int32) (n t cl qu en kp : Nat) (hs : Int64) (dz : Nat → Int32) (cf : Nat → Int64) (sf : Nat → Int64) (hn : n ≤ 16) (ht : t ≤ n) (dl cp : Nat → Nat) (co sh : Nat → Nat → Nat) (hM : w0 77 = .inr (4, [.int cd, .int (nI n), .int (nI t), .int (nI cl), .ref (ad 78), .ref (ad 79), .ref (ad 80), .ref (ad 81), .ref (ad 82), .ref (ad 83), .int (nI qu), .ref (ad 84), .ref (ad 85), .ref (ad 86), .int (nI en), .int (nI kp), .ref (ad 87), .long hs])) (hDz : w0 78 = .inl (cZ, 17, .inl dz)) (hCf : w0 80 = .inl (cJ, 289, .inr (.inl cf))) (hSf : w0 82 = .inl (cJ, 289, .inr (.inl sf))) (i : Nat) (hi1 : 1 ≤ i) (hi : i ≤ 16) (hdz : dz i = nI 1) (hco : ∀ j, j < t → cf (17 * i + j) = lN (co i j) ∧ co i j < 1073741789) (hcs : ∀ k, 1 ≤ k → k ≤ n → sf (17 * i + k) = lN (sh i k) ∧ sh i k < 1073741789) (xf0 : Nat → Int32)
    (kx : ∀ (xf : Nat → Int32) (w : Nat → va_E) (ls : Array Slot) (H : Heap) (locs : List Loc), (∀ z, z ≠ 83 → w z = w0 z) → w 83 = .inl (cZ, 289, .inl xf) → (∀ k, k < 17 → xf (17 * i + k) = nI (tb (gath (cp i) (sh i) (rgt (co i) t) n) k)) → (∀ z, z < 17 * i ∨ 17 * i + 16 < z → xf z = xf0 z) → WW D vwCl (tyL cI cJ cZ cD) A H0 ad 89 w s H locs → lv_has ls 3 [(0, .ref (ad 77)), (1, .int (nI i))] → W p l e ({ frames := 1, cells := 0, slots := 0, locals := 35 }) s m args below meth c H locs 0 0 Q (F0 m 107 ls [])) :
    ∀ (j q : Nat) (xf : Nat → Int32) (w : Nat → va_E) (ls : Array Slot) (H : Heap) (locs : List Loc), q + j = n → (∀ z, z ≠ 83 → w z = w0 z) → w 83 = .inl (cZ, 289, .inl xf) → (∀ k, k < 17 → xf (17 * i + k) = nI (tb (gath (cp i) (sh i) (rgt (co i) t) q) k)) → (∀ z, z < 17 * i ∨ 17 * i + 16 < z → xf z = xf0 z) → WW D vwCl (tyL cI cJ cZ cD) A H0 ad 89 w s H locs → lv_has ls 3 [(0, .ref (ad 77)), (1, .int (nI i)), (2, .int (nI (q + 1)))] → W p l e ({ frames := 1, cells := 0, slots := 0, locals := 35 }) s m args below meth c H locs 0 0 Q (F0 m 33 ls []) := by
  obtain ⟨hx, hb, hml, hown, hts⟩ := id hC
  intro j
  induction j with
  | zero =>
    intro q xf w ls H locs hq hfr hXf hx1 hx2 hw hl
    obtain rfl : n = q := by omega
    have hl : lv_has ls 3 [(0, .ref (ad 77)), (1, .int (nI i)), (2, .int (nI (n + 1)))] := hl
    have hM : w 77 = .inr (4, [.int cd, .int (nI n), .int (nI t), .int (nI cl), .ref (ad 78), .ref (ad 79), .ref (ad 80), .ref (ad 81), .ref (ad 82), .ref (ad 83), .int (nI qu), .ref (ad 84), .ref (ad 85), .ref (ad 86), .int (nI en), .int (nI kp), .ref (ad 87), .long hs]) := (hfr 77 (by decide)).trans hM
    have hDz : w 78 = .inl (cZ, 17, .inl dz) := (hfr 78 (by decide)).trans hDz
    have hCf : w 80 = .inl (cJ, 289, .inr (.inl cf)) := (hfr 80 (by decide)).trans hCf
    have hSf : w 82 = .inl (cJ, 289, .inr (.inl sf)) := (hfr 82 (by decide)).trans hSf
    refine lv_iload_n hx hb dX5_complain_33 rfl (lv_at hl 2 rfl) ?_
    refine lv_aload_n hx hb dX5_complain_34 rfl (lv_at hl 0 rfl) ?_
    refine gf_X5_59 hx hb hts hown hw (by decide) hM rfl dX5_complain_35 ?_
    refine lv_icmp_gt (tgt := 107) hx hb dX5_complain_38 (by decide) (fun hc => ?_) (fun hc => absurd (nI_lt (by omega) (by omega)) hc)
    exact kx xf w ls H locs hfr hXf hx1 hx2 hw (lv_sub hl [0, 1] rfl)
  | succ j ih =>
    intro q xf w ls H locs hq hfr hXf hx1 hx2 hw hl
    have hM : w 77 = .inr (4, [.int cd, .int (nI n), .int (nI t), .int (nI cl), .ref (ad 78), .ref (ad 79), .ref (ad 80), .ref (ad 81), .ref (ad 82), .ref (ad 83), .int (nI qu), .ref (ad 84), .ref (ad 85), .ref (ad 86), .int (nI en), .int (nI kp), .ref (ad 87), .long hs]) := (hfr 77 (by decide)).trans hM
    have hDz : w 78 = .inl (cZ, 17, .inl dz) := (hfr 78 (by decide)).trans hDz
    have hCf : w 80 = .inl (cJ, 289, .inr (.inl cf)) := (hfr 80 (by decide)).trans hCf
    have hSf : w 82 = .inl (cJ, 289, .inr (.inl sf)) := (hfr 82 (by decide)).trans hSf
    refine lv_iload_n hx hb dX5_complain_33 rfl (lv_at hl 2 rfl) ?_
    refine lv_aload_n hx hb dX5_complain_34 rfl (lv_at hl 0 rfl) ?_
    refine gf_X5_59 hx hb hts hown hw (by decide) hM rfl dX5_complain_35 ?_
    refine lv_icmp_gt (tgt := 107) hx hb dX5_complain_38 (by decide) (fun hc => absurd hc (nI_nlt (by omega) (by omega))) (fun hc => ?_)
    have htb := tb_lt (gath (cp i) (sh i) (rgt (co i) t) q) (q + 1)
    obtain ⟨e1, e2⟩ := hcs (q + 1) (by omega) (by omega)
    have hrl := rgt_lt (co i) t (q + 1)
    refine lv_aload_n hx hb dX5_complain_41 rfl (lv_at hl 0 rfl) ?_
    refine gf_X5_7 hx hb hts hown hw (by decide) hM rfl dX5_complain_42 ?_
    refine lv_iload_n hx hb dX5_complain_45 rfl (lv_at hl 1 rfl) ?_
    refine x_zald hx hb hw (by decide) 2 hDz rfl (j := i) (by omega) (by decide) hdz dX5_complain_46 ?_
    refine lv_if_eq (tgt := 107) hx hb dX5_complain_47 (by decide) (fun q_1 => absurd q_1 (by decide)) (fun q_1 => ?_)
    refine lv_aload_n hx hb dX5_complain_50 rfl (lv_at hl 0 rfl) ?_
    refine gf_X5_26 hx hb hts hown hw (by decide) hM rfl dX5_complain_51 ?_
    refine lv_bipush (v := nI 17) hx hb dX5_complain_54 (by decide) ?_
    refine lv_iload_n hx hb dX5_complain_56 rfl (lv_at hl 1 rfl) ?_
    refine t_imul hx hb dX5_complain_57 (v := nI (17 * i)) (pk_mul _ _) ?_
    refine lv_iload_n hx hb dX5_complain_58 rfl (lv_at hl 2 rfl) ?_
    refine t_iadd hx hb dX5_complain_59 (v := nI (17 * i + (q + 1))) (nI_add _ _) ?_
    refine lv_aload_n hx hb dX5_complain_60 rfl (lv_at hl 0 rfl) ?_
    refine gf_X5_26 hx hb hts hown hw (by decide) hM rfl dX5_complain_61 ?_
    refine lv_bipush (v := nI 17) hx hb dX5_complain_64 (by decide) ?_
    refine lv_iload_n hx hb dX5_complain_66 rfl (lv_at hl 1 rfl) ?_
    refine t_imul hx hb dX5_complain_67 (v := nI (17 * i)) (pk_mul _ _) ?_
    refine lv_iload_n hx hb dX5_complain_68 rfl (lv_at hl 2 rfl) ?_
    refine t_iadd hx hb dX5_complain_69 (v := nI (17 * i + (q + 1))) (nI_add _ _) ?_
    refine x_zald hx hb hw (by decide) 2 hXf rfl (j := 17 * i + (q + 1)) (by omega) (by decide) (hx1 (q + 1) (by omega)) dX5_complain_70 ?_
    refine lv_if_ne (tgt := 95) hx hb dX5_complain_71 (by decide) (fun h1 => ?_) (fun h1 => ?_)
    · rw [nI_z (by omega)] at h1
      refine lv_iconst (v := nI 1) hx hb dX5_complain_95 (by decide) ?_
      refine lv_goto (tgt := 100) hx hb dX5_complain_96 (by decide) ?_
      refine x_zast hx hb hw (by decide) 2 hXf rfl (j := 17 * i + (q + 1)) (by omega) (by decide) (by decide) dX5_complain_100 (fun w_2 H locs ew_3 hw => ?_)
      have hc_4 : w_2 77 = .inr (4, [.int cd, .int (nI n), .int (nI t), .int (nI cl), .ref (ad 78), .ref (ad 79), .ref (ad 80), .ref (ad 81), .ref (ad 82), .ref (ad 83), .int (nI qu), .ref (ad 84), .ref (ad 85), .ref (ad 86), .int (nI en), .int (nI kp), .ref (ad 87), .long hs]) := by rw [ew_3]; exact (va_up_ne _ _ (by omega)).trans hM
      have hc_5 : w_2 78 = .inl (cZ, 17, .inl dz) := by rw [ew_3]; exact (va_up_ne _ _ (by omega)).trans hDz
      have hc_6 : w_2 80 = .inl (cJ, 289, .inr (.inl cf)) := by rw [ew_3]; exact (va_up_ne _ _ (by omega)).trans hCf
      have hc_7 : w_2 82 = .inl (cJ, 289, .inr (.inl sf)) := by rw [ew_3]; exact (va_up_ne _ _ (by omega)).trans hSf
      have hc_8 : w_2 83 = .inl (cZ, 289, .inl (upd xf (17 * i + (q + 1)) (nI 1))) := by rw [ew_3]; exact va_up_self _ _ _
      refine lv_iinc (v := nI (q + 1 + 1)) (lv' := [(2, .int (nI (q + 1 + 1))), (0, .ref (ad 77)), (1, .int (nI i))]) hx hb dX5_complain_101 hl (k := 2) rfl (nI_1 (q + 1)) (by decide) rfl (fun ls hl => ?_)
      refine lv_goto (tgt := 33) hx hb dX5_complain_104 (by decide) ?_
      have hfa : ∀ z, z ≠ 83 → w_2 z = w z := fun z hhfa0 => by rw [ew_3, va_up_ne _ _ hhfa0]
      refine ih (q + 1) _ _ ls H locs (by omega) (fun z h1 => (hfa z h1).trans (hfr z h1)) hc_8 (fun k9 hk9 => ?_) (fun z hz9 => ?_) hw (lv_sub hl [1, 2, 0] rfl)
      · by_cases hkk : k9 = q + 1
        · subst hkk; rw [upd_s, gath_one (by omega)]
        · rw [upd_n _ _ (by omega), gath_tb1 hkk]; exact hx1 k9 hk9
      · rw [upd_n _ _ (by omega)]; exact hx2 z hz9
    · rw [nI_z (by omega)] at h1
      refine lv_aload_n hx hb dX5_complain_74 rfl (lv_at hl 0 rfl) ?_
      refine gf_X5_23 hx hb hts hown hw (by decide) hM rfl dX5_complain_75 ?_
      refine lv_bipush (v := nI 17) hx hb dX5_complain_78 (by decide) ?_
      refine lv_iload_n hx hb dX5_complain_80 rfl (lv_at hl 1 rfl) ?_
      refine t_imul hx hb dX5_complain_81 (v := nI (17 * i)) (pk_mul _ _) ?_
      refine lv_iload_n hx hb dX5_complain_82 rfl (lv_at hl 2 rfl) ?_
      refine t_iadd hx hb dX5_complain_83 (v := nI (17 * i + (q + 1))) (nI_add _ _) ?_
      refine x_lald hx hb hw (by decide) 1 hSf rfl (j := 17 * i + (q + 1)) (by omega) (by decide) e1 dX5_complain_84 ?_
      refine lv_aload_n hx hb dX5_complain_85 rfl (lv_at hl 0 rfl) ?_
      refine lv_iload_n hx hb dX5_complain_86 rfl (lv_at hl 1 rfl) ?_
      refine lv_iload_n hx hb dX5_complain_87 rfl (lv_at hl 2 rfl) ?_
      refine x_callW1 (As := [.int (nI i), .int (nI (q + 1))]) (rest := [.long (lN (sh i (q + 1))), .int (nI (17 * i + (q + 1))), .ref (ad 83)]) hC vf_X5_99 hw hA (by decide) hM rfl rfl (k5_right l _ _ _ _ _ _ _ _ cf i (q + 1) hi (by omega) (by omega) (co i) hco hM hCf) ⟨rfl, rfl, Nat.le_of_ble_eq_true rfl, Nat.le_of_ble_eq_true rfl⟩ hl.1 (Nat.le_of_ble_eq_true rfl) dX5_complain_88 ⟨Nat.zero_le _, Nat.zero_le _⟩ rfl (fun w_9 H locs hu hw => ?_)
      rw [hu] at hw
      refine W.lcmp hx hb dX5_complain_91 ?_
      refine lv_if_eq (tgt := 99) hx hb dX5_complain_92 (by decide) (fun h2 => ?_) (fun h2 => ?_)
      · rw [lg_cmp_eq, pk_lEQ (by omega) (by omega)] at h2
        refine lv_iconst (v := nI 0) hx hb dX5_complain_99 (by decide) ?_
        refine x_zast hx hb hw (by decide) 2 hXf rfl (j := 17 * i + (q + 1)) (by omega) (by decide) (by decide) dX5_complain_100 (fun w_10 H locs ew_11 hw => ?_)
        have hc_12 : w_10 77 = .inr (4, [.int cd, .int (nI n), .int (nI t), .int (nI cl), .ref (ad 78), .ref (ad 79), .ref (ad 80), .ref (ad 81), .ref (ad 82), .ref (ad 83), .int (nI qu), .ref (ad 84), .ref (ad 85), .ref (ad 86), .int (nI en), .int (nI kp), .ref (ad 87), .long hs]) := by rw [ew_11]; exact (va_up_ne _ _ (by omega)).trans hM
        have hc_13 : w_10 78 = .inl (cZ, 17, .inl dz) := by rw [ew_11]; exact (va_up_ne _ _ (by omega)).trans hDz
        have hc_14 : w_10 80 = .inl (cJ, 289, .inr (.inl cf)) := by rw [ew_11]; exact (va_up_ne _ _ (by omega)).trans hCf
        have hc_15 : w_10 82 = .inl (cJ, 289, .inr (.inl sf)) := by rw [ew_11]; exact (va_up_ne _ _ (by omega)).trans hSf
        have hc_16 : w_10 83 = .inl (cZ, 289, .inl (upd xf (17 * i + (q + 1)) (nI 0))) := by rw [ew_11]; exact va_up_self _ _ _
        refine lv_iinc (v := nI (q + 1 + 1)) (lv' := [(2, .int (nI (q + 1 + 1))), (0, .ref (ad 77)), (1, .int (nI i))]) hx hb dX5_complain_101 hl (k := 2) rfl (nI_1 (q + 1)) (by decide) rfl (fun ls hl => ?_)
        refine lv_goto (tgt := 33) hx hb dX5_complain_104 (by decide) ?_
        have hfb : ∀ z, z ≠ 83 → w_10 z = w z := fun z hhfb0 => by rw [ew_11, va_up_ne _ _ hhfb0]
        refine ih (q + 1) _ _ ls H locs (by omega) (fun z h1 => (hfb z h1).trans (hfr z h1)) hc_16 (fun k9 hk9 => ?_) (fun z hz9 => ?_) hw (lv_sub hl [1, 2, 0] rfl)
        · by_cases hkk : k9 = q + 1
          · subst hkk; rw [upd_s, gath_eq h2, h1]
          · rw [upd_n _ _ (by omega), gath_tb1 hkk]; exact hx1 k9 hk9
        · rw [upd_n _ _ (by omega)]; exact hx2 z hz9
      · rw [lg_cmp_eq, pk_lEQ (by omega) (by omega)] at h2
        refine lv_iconst (v := nI 1) hx hb dX5_complain_95 (by decide) ?_
        refine lv_goto (tgt := 100) hx hb dX5_complain_96 (by decide) ?_
        refine x_zast hx hb hw (by decide) 2 hXf rfl (j := 17 * i + (q + 1)) (by omega) (by decide) (by decide) dX5_complain_100 (fun w_17 H locs ew_18 hw => ?_)
        have hc_19 : w_17 77 = .inr (4, [.int cd, .int (nI n), .int (nI t), .int (nI cl), .ref (ad 78), .ref (ad 79), .ref (ad 80), .ref (ad 81), .ref (ad 82), .ref (ad 83), .int (nI qu), .ref (ad 84), .ref (ad 85), .ref (ad 86), .int (nI en), .int (nI kp), .ref (ad 87), .long hs]) := by rw [ew_18]; exact (va_up_ne _ _ (by omega)).trans hM
        have hc_20 : w_17 78 = .inl (cZ, 17, .inl dz) := by rw [ew_18]; exact (va_up_ne _ _ (by omega)).trans hDz
        have hc_21 : w_17 80 = .inl (cJ, 289, .inr (.inl cf)) := by rw [ew_18]; exact (va_up_ne _ _ (by omega)).trans hCf
        have hc_22 : w_17 82 = .inl (cJ, 289, .inr (.inl sf)) := by rw [ew_18]; exact (va_up_ne _ _ (by omega)).trans hSf
        have hc_23 : w_17 83 = .inl (cZ, 289, .inl (upd xf (17 * i + (q + 1)) (nI 1))) := by rw [ew_18]; exact va_up_self _ _ _
        refine lv_iinc (v := nI (q + 1 + 1)) (lv' := [(2, .int (nI (q + 1 + 1))), (0, .ref (ad 77)), (1, .int (nI i))]) hx hb dX5_complain_101 hl (k := 2) rfl (nI_1 (q + 1)) (by decide) rfl (fun ls hl => ?_)
        refine lv_goto (tgt := 33) hx hb dX5_complain_104 (by decide) ?_
        have hfc : ∀ z, z ≠ 83 → w_17 z = w z := fun z hhfc0 => by rw [ew_18, va_up_ne _ _ hhfc0]
        refine ih (q + 1) _ _ ls H locs (by omega) (fun z h1 => (hfc z h1).trans (hfr z h1)) hc_23 (fun k9 hk9 => ?_) (fun z hz9 => ?_) hw (lv_sub hl [1, 2, 0] rfl)
        · by_cases hkk : k9 = q + 1
          · subst hkk; rw [upd_s, gath_ne h2]
          · rw [upd_n _ _ (by omega), gath_tb1 hkk]; exact hx1 k9 hk9
        · rw [upd_n _ _ (by omega)]; exact hx2 z hz9
set_option maxHeartbeats 4000000 in
set_option maxRecDepth 100000 in
theorem k5_complain_out {l : Launch} {p : Program} {e : Env} {s : State} {m : MethodId} {args : Array Value} {below : List Frame} {meth : Method} {c : Code} {Q : State → Prop} {D : va_G} {cI cJ cZ cD : ClassId} {ad : Nat → Nat} {A : Nat → Prop} {H0 : Heap} {w0 : Nat → va_E} (hC : CallFix p m c cX5_complain 3 s args wsL_law RX5) (hA : ∀ q, H0.size ≤ q → A q) (cd : Int32) (n t cl qu en kp : Nat) (hs : Int64) (dz : Nat → Int32) (cf : Nat → Int64) (sf : Nat → Int64) (hn : n ≤ 16) (ht : t ≤ n) (dl cp : Nat → Nat) (co sh : Nat → Nat → Nat) (hM : w0 77 = .inr (4, [.int cd, .int (nI n), .int (nI t), .int (nI cl), .ref (ad 78), .ref (ad 79), .ref (ad 80), .ref (ad 81), .ref (ad 82), .ref (ad 83), .int (nI qu), .ref (ad 84), .ref (ad 85), .ref (ad 86), .int (nI en), .int (nI kp), .ref (ad 87), .long hs])) (hDz : w0 78 = .inl (cZ, 17, .inl dz)) (hCf : w0 80 = .inl (cJ, 289, .inr (.inl cf))) (hSf : w0 82 = .inl (cJ, 289, .inr (.inl sf))) (hle : ∀ i, dl i ≤ 1) (hdz : ∀ i, i < 17 → dz i = nI (dl i)) (hval : ∀ i, 1 ≤ i → i ≤ n → dl i = 1 → (∀ j, j < t → cf (17 * i + j) = lN (co i j) ∧ co i j < 1073741789) ∧ ∀ k, 1 ≤ k → k ≤ n → sf (17 * i + k) = lN (sh i k) ∧ sh i k < 1073741789)
    (kx : ∀ (xf : Nat → Int32) (w : Nat → va_E) (ls : Array Slot) (H : Heap) (locs : List Loc), (∀ z, z ≠ 83 → w z = w0 z) → w 83 = .inl (cZ, 289, .inl xf) → (∀ i k, i < 17 → k < 17 → xf (17 * i + k) = nI (tb ((fun i => if 1 ≤ i ∧ i ≤ n ∧ dl i = 1 then gath (cp i) (sh i) (rgt (co i) t) n else cp i) i) k)) → WW D vwCl (tyL cI cJ cZ cD) A H0 ad 89 w s H locs → lv_has ls 3 [(0, .ref (ad 77))] → W p l e ({ frames := 1, cells := 0, slots := 0, locals := 35 }) s m args below meth c H locs 0 0 Q (F0 m 113 ls [])) :
    ∀ (j q : Nat) (xf : Nat → Int32) (w : Nat → va_E) (ls : Array Slot) (H : Heap) (locs : List Loc), q + j = n → (∀ z, z ≠ 83 → w z = w0 z) → w 83 = .inl (cZ, 289, .inl xf) → (∀ i k, i < 17 → k < 17 → xf (17 * i + k) = nI (tb ((fun i => if 1 ≤ i ∧ i ≤ q ∧ dl i = 1 then gath (cp i) (sh i) (rgt (co i) t) n else cp i) i) k)) → WW D vwCl (tyL cI cJ cZ cD) A H0 ad 89 w s H locs → lv_has ls 3 [(0, .ref (ad 77)), (1, .int (nI (q + 1)))] → W p l e ({ frames := 1, cells := 0, slots := 0, locals := 35 }) s m args below meth c H locs 0 0 Q (F0 m 23 ls []) := by
  obtain ⟨hx, hb, hml, hown, hts⟩ := id hC
  intro j
  induction j with
  | zero =>
    intro q xf w ls H locs hq hfr hXf hx1 hw hl
    obtain rfl : n = q := by omega
    have hl : lv_has ls 3 [(0, .ref (ad 77)), (1, .int (nI (n + 1)))] := hl
    have hM : w 77 = .inr (4, [.int cd, .int (nI n), .int (nI t), .int (nI cl), .ref (ad 78), .ref (ad 79), .ref (ad 80), .ref (ad 81), .ref (ad 82), .ref (ad 83), .int (nI qu), .ref (ad 84), .ref (ad 85), .ref (ad 86), .int (nI en), .int (nI kp), .ref (ad 87), .long hs]) := (hfr 77 (by decide)).trans hM
    have hDz : w 78 = .inl (cZ, 17, .inl dz) := (hfr 78 (by decide)).trans hDz
    have hCf : w 80 = .inl (cJ, 289, .inr (.inl cf)) := (hfr 80 (by decide)).trans hCf
    have hSf : w 82 = .inl (cJ, 289, .inr (.inl sf)) := (hfr 82 (by decide)).trans hSf
    refine lv_iload_n hx hb dX5_complain_23 rfl (lv_at hl 1 rfl) ?_
    refine lv_aload_n hx hb dX5_complain_24 rfl (lv_at hl 0 rfl) ?_
    refine gf_X5_59 hx hb hts hown hw (by decide) hM rfl dX5_complain_25 ?_
    refine lv_icmp_gt (tgt := 113) hx hb dX5_complain_28 (by decide) (fun hc => ?_) (fun hc => absurd (nI_lt (by omega) (by omega)) hc)
    exact kx xf w ls H locs hfr hXf hx1 hw (lv_sub hl [0] rfl)
  | succ j ih =>
    intro q xf w ls H locs hq hfr hXf hx1 hw hl
    have hM : w 77 = .inr (4, [.int cd, .int (nI n), .int (nI t), .int (nI cl), .ref (ad 78), .ref (ad 79), .ref (ad 80), .ref (ad 81), .ref (ad 82), .ref (ad 83), .int (nI qu), .ref (ad 84), .ref (ad 85), .ref (ad 86), .int (nI en), .int (nI kp), .ref (ad 87), .long hs]) := (hfr 77 (by decide)).trans hM
    have hDz : w 78 = .inl (cZ, 17, .inl dz) := (hfr 78 (by decide)).trans hDz
    have hCf : w 80 = .inl (cJ, 289, .inr (.inl cf)) := (hfr 80 (by decide)).trans hCf
    have hSf : w 82 = .inl (cJ, 289, .inr (.inl sf)) := (hfr 82 (by decide)).trans hSf
    refine lv_iload_n hx hb dX5_complain_23 rfl (lv_at hl 1 rfl) ?_
    refine lv_aload_n hx hb dX5_complain_24 rfl (lv_at hl 0 rfl) ?_
    refine gf_X5_59 hx hb hts hown hw (by decide) hM rfl dX5_complain_25 ?_
    refine lv_icmp_gt (tgt := 113) hx hb dX5_complain_28 (by decide) (fun hc => absurd hc (nI_nlt (by omega) (by omega))) (fun hc => ?_)
    by_cases hd1 : dl (q + 1) = 1
    · skip
      refine lv_iconst (v := nI 1) hx hb dX5_complain_31 (by decide) ?_
      refine lv_istore_n (lv' := [(2, .int (nI 1)), (0, .ref (ad 77)), (1, .int (nI (q + 1)))]) hx hb dX5_complain_32 rfl hl (by decide) rfl (fun ls hl => ?_)
      obtain ⟨g1, g2⟩ := hval (q + 1) (by omega) (by omega) hd1
      refine k5_complain_in (w0 := w) hC hA cd n t cl qu en kp hs dz cf sf hn ht dl cp co sh hM hDz hCf hSf (q + 1) (by omega) (by omega) (by rw [hdz _ (by omega), hd1]) g1 g2 xf (fun xf2 w2 ls H locs hfr2 hXf2 hx3 hx4 hw hl => ?_) n 0 xf w ls H locs (by omega) (fun _ _ => rfl) hXf (fun k hk => ?_) (fun _ _ => rfl) hw (lv_sub hl [1, 2, 0] rfl)
      · skip
        refine lv_iinc (v := nI (q + 1 + 1)) (lv' := [(1, .int (nI (q + 1 + 1))), (0, .ref (ad 77))]) hx hb dX5_complain_107 hl (k := 1) rfl (nI_1 (q + 1)) (by decide) rfl (fun ls hl => ?_)
        refine lv_goto (tgt := 23) hx hb dX5_complain_110 (by decide) ?_
        refine ih (q + 1) xf2 w2 ls H locs (by omega) (fun z h1 => (hfr2 z h1).trans (hfr z h1)) hXf2 (fun i k h1 h2 => ?_) hw (lv_sub hl [1, 0] rfl)
        by_cases hii : i = q + 1
        · subst hii; rw [hx3 k h2]; dsimp only; rw [if_pos ⟨by omega, by omega, hd1⟩]
        · rw [hx4 _ (by omega), hx1 i k h1 h2]
          dsimp only
          by_cases hc9 : 1 ≤ i ∧ i ≤ q ∧ dl i = 1
          · rw [if_pos hc9, if_pos ⟨hc9.1, by omega, hc9.2.2⟩]
          · rw [if_neg hc9, if_neg (fun q9 => hc9 ⟨q9.1, by omega, q9.2.2⟩)]
      · rw [hx1 _ _ (by omega) hk]; dsimp only; rw [if_neg (by omega)]; rfl
    · skip
      have hd0 : dl (q + 1) = 0 := by have := hle (q + 1); omega
      refine lv_iconst (v := nI 1) hx hb dX5_complain_31 (by decide) ?_
      refine lv_istore_n (lv' := [(2, .int (nI 1)), (0, .ref (ad 77)), (1, .int (nI (q + 1)))]) hx hb dX5_complain_32 rfl hl (by decide) rfl (fun ls hl => ?_)
      refine lv_iload_n hx hb dX5_complain_33 rfl (lv_at hl 0 rfl) ?_
      refine lv_aload_n hx hb dX5_complain_34 rfl (lv_at hl 1 rfl) ?_
      refine gf_X5_59 hx hb hts hown hw (by decide) hM rfl dX5_complain_35 ?_
      refine lv_icmp_gt (tgt := 107) hx hb dX5_complain_38 (by decide) (fun hq2 => absurd hq2 (nI_nlt (by omega) (by omega))) (fun hq2 => ?_)
      refine lv_aload_n hx hb dX5_complain_41 rfl (lv_at hl 1 rfl) ?_
      refine gf_X5_7 hx hb hts hown hw (by decide) hM rfl dX5_complain_42 ?_
      refine lv_iload_n hx hb dX5_complain_45 rfl (lv_at hl 2 rfl) ?_
      refine x_zald hx hb hw (by decide) 2 hDz rfl (j := q + 1) (by omega) (by decide) (by rw [hdz _ (by omega), hd0]) dX5_complain_46 ?_
      refine lv_if_eq (tgt := 107) hx hb dX5_complain_47 (by decide) (fun q_1 => ?_) (fun q_1 => absurd (by decide) q_1)
      refine lv_iinc (v := nI (q + 1 + 1)) (lv' := [(1, .int (nI (q + 1 + 1))), (2, .int (nI 1)), (0, .ref (ad 77))]) hx hb dX5_complain_107 hl (k := 2) rfl (nI_1 (q + 1)) (by decide) rfl (fun ls hl => ?_)
      refine lv_goto (tgt := 23) hx hb dX5_complain_110 (by decide) ?_
      refine ih (q + 1) xf w ls H locs (by omega) hfr hXf (fun i k h1 h2 => ?_) hw (lv_sub hl [2, 0] rfl)
      rw [hx1 i k h1 h2]
      dsimp only
      by_cases hc9 : 1 ≤ i ∧ i ≤ q ∧ dl i = 1
      · rw [if_pos hc9, if_pos ⟨hc9.1, by omega, hc9.2.2⟩]
      · rw [if_neg hc9, if_neg (fun q9 => hc9 ⟨q9.1, (by cases Nat.lt_or_ge q i with | inl h7 => exact absurd (show dl (q + 1) = 1 by rw [show q + 1 = i by omega]; exact q9.2.2) hd1 | inr h7 => exact h7), q9.2.2⟩)]
theorem gath_b {cp : Nat} {s r : Nat → Nat} {n : Nat} (h : ∀ k, tb cp k = 1 → 1 ≤ k ∧ k ≤ n) : ∀ q, q ≤ n → ∀ k, tb (gath cp s r q) k = 1 → 1 ≤ k ∧ k ≤ n := by
  intro q
  induction q with
  | zero => intro _ k hk; exact h k hk
  | succ q ih =>
    intro hq k hk
    by_cases hkq : k = q + 1
    · omega
    · rw [gath_tb1 hkq] at hk; exact ih (by omega) k hk
theorem ncp_b {cp dl : Nat → Nat} {co sh : Nat → Nat → Nat} {n t : Nat} (h : ∀ i k, tb (cp i) k = 1 → (1 ≤ k ∧ k ≤ n) ∧ dl i = 1) : ∀ i k, tb ((fun i => if 1 ≤ i ∧ i ≤ n ∧ dl i = 1 then gath (cp i) (sh i) (rgt (co i) t) n else cp i) i) k = 1 → (1 ≤ k ∧ k ≤ n) ∧ dl i = 1 := by
  intro i k hk
  dsimp only at hk
  by_cases hc : 1 ≤ i ∧ i ≤ n ∧ dl i = 1
  · rw [if_pos hc] at hk
    exact ⟨gath_b (fun k q => (h i k q).1) n (Nat.le_refl _) k hk, hc.2.2⟩
  · rw [if_neg hc] at hk
    exact h i k hk

set_option maxHeartbeats 4000000 in
set_option maxRecDepth 100000 in
theorem m_complain (l : Launch) {D : va_G} {cI cJ cZ cD : ClassId} {ad : Nat → Nat} {w : Nat → va_E} {sz : Nat} (n t cl qu en kp : Nat) (dl ou cp ks pt : Nat → Nat) (co sh : Nat → Nat → Nat) (vs : Nat → Int64) (cd : Int32) (hok : OkS n t cl qu en kp dl ou cp ks pt co sh) (hRM : RM ad cJ cZ w cd n t cl qu en kp dl ou cp ks pt co sh vs) (hcl0 : cl = 0)  : MW l yX5_complain (.code yX5_complain cX5_complain 3 (some .int)) ({ frames := 1, cells := 0, slots := 0, locals := 35 }) [.ref (ad 77)] D (tyL cI cJ cZ cD) ad 89 w sz (some (.int (nI (cnt (fun i => pcN ((fun i => if 1 ≤ i ∧ i ≤ n ∧ dl i = 1 then gath (cp i) (sh i) (rgt (co i) t) n else cp i) i)) n)))) (fun u => (∀ z, z < 77 ∨ 87 < z → u z = w z) ∧ RM ad cJ cZ u (nI 0) n t 0 qu en kp dl ou (fun i => if 1 ≤ i ∧ i ≤ n ∧ dl i = 1 then gath (cp i) (sh i) (rgt (co i) t) n else cp i) ks pt co sh vs) := by
  refine MW.of (by decide) (Nat.le_of_ble_eq_true rfl) ?_
  intro p e s m below meth c ls hC hr hlocks hl hw
  obtain ⟨hx, hb, hml, hown, hts⟩ := id hC
  have hA : ∀ q, s.heap.size ≤ q → xA ad 89 s.heap.size q := fun q h => Or.inr h
  have hl : lv_has ls 3 [(0, .ref (ad 77))] := hl
  obtain ⟨⟨hs, hM⟩, ⟨dz, oz, hDz, hOz, hdo⟩, ⟨cf, mf, sf, hCf, hMf, hSf, hcs⟩, ⟨xf, hXf, hxx⟩, ⟨kyf, swf, hKy, hSw, hks⟩, ⟨vlf, hVl, hvl⟩, ⟨plf, hPl, hpl⟩⟩ := id hRM
  obtain ⟨⟨hn, ht, hcl, hqu, hen, hkp⟩, hle, ⟨hqb, hkb, hcb⟩, hvals, hclv, hptl, ⟨hz1, hz2, hz3⟩⟩ := id hok
  subst hcl0
  refine lv_aload_n hx hb dX5_complain_0 rfl (lv_at hl 0 rfl) ?_
  refine lv_aload_n hx hb dX5_complain_1 rfl (lv_at hl 0 rfl) ?_
  refine gf_X5_71 hx hb hts hown hw (by decide) hM rfl dX5_complain_2 ?_
  refine lv_if_eq (tgt := 12) hx hb dX5_complain_5 (by decide) (fun q_1 => ?_) (fun q_1 => absurd (by decide) q_1)
  refine lv_iconst (v := nI 0) hx hb dX5_complain_12 (by decide) ?_
  refine x_callW1 (As := [.int (nI 0)]) (rest := []) hC vf_X5_64 hw hA (by decide) hM rfl rfl (k5_refuses0 l _ _ _ _ _ _ _ _ hM) ⟨rfl, rfl, Nat.le_of_ble_eq_true rfl, Nat.le_of_ble_eq_true rfl⟩ hl.1 (Nat.le_of_ble_eq_true rfl) dX5_complain_13 ⟨Nat.zero_le _, Nat.zero_le _⟩ rfl (fun w_3 H locs hu_2 hw => ?_)
  have hc_4 : w_3 77 = .inr (4, [.int (nI 0), .int (nI n), .int (nI t), .int (nI 0), .ref (ad 78), .ref (ad 79), .ref (ad 80), .ref (ad 81), .ref (ad 82), .ref (ad 83), .int (nI qu), .ref (ad 84), .ref (ad 85), .ref (ad 86), .int (nI en), .int (nI kp), .ref (ad 87), .long hs]) := by rw [hu_2]; exact va_up_self _ _ _
  have hc_5 : w_3 78 = .inl (cZ, 17, .inl dz) := by rw [hu_2, va_up_ne _ _ (by decide)]; exact hDz
  have hc_6 : w_3 79 = .inl (cZ, 17, .inl oz) := by rw [hu_2, va_up_ne _ _ (by decide)]; exact hOz
  have hc_7 : w_3 80 = .inl (cJ, 289, .inr (.inl cf)) := by rw [hu_2, va_up_ne _ _ (by decide)]; exact hCf
  have hc_8 : w_3 81 = .inl (cJ, 289, .inr (.inl mf)) := by rw [hu_2, va_up_ne _ _ (by decide)]; exact hMf
  have hc_9 : w_3 82 = .inl (cJ, 289, .inr (.inl sf)) := by rw [hu_2, va_up_ne _ _ (by decide)]; exact hSf
  have hc_10 : w_3 83 = .inl (cZ, 289, .inl xf) := by rw [hu_2, va_up_ne _ _ (by decide)]; exact hXf
  have hc_11 : w_3 84 = .inl (cJ, 17, .inr (.inl kyf)) := by rw [hu_2, va_up_ne _ _ (by decide)]; exact hKy
  have hc_12 : w_3 85 = .inl (cJ, 17, .inr (.inl swf)) := by rw [hu_2, va_up_ne _ _ (by decide)]; exact hSw
  have hc_13 : w_3 86 = .inl (cJ, 301, .inr (.inl vlf)) := by rw [hu_2, va_up_ne _ _ (by decide)]; exact hVl
  have hc_14 : w_3 87 = .inl (cJ, 17, .inr (.inl plf)) := by rw [hu_2, va_up_ne _ _ (by decide)]; exact hPl
  refine lv_if_eq (tgt := 21) hx hb dX5_complain_16 (by decide) (fun q_15 => ?_) (fun q_15 => absurd (by decide) q_15)
  refine lv_iconst (v := nI 1) hx hb dX5_complain_21 (by decide) ?_
  refine lv_istore_n (lv' := [(1, .int (nI 1)), (0, .ref (ad 77))]) hx hb dX5_complain_22 rfl hl (by decide) rfl (fun ls hl => ?_)
  have hf1 : ∀ z, z ≠ 77 → w_3 z = w z := fun z hhf10 => by rw [hu_2, va_up_ne _ _ hhf10]
  refine k5_complain_out (w0 := w_3) hC hA (nI 0) n t 0 qu en kp hs dz cf sf hn ht dl cp co sh hc_4 hc_5 hc_7 hc_9 (fun i => (hle i).1) (fun i hi => (hdo i hi).1) (fun i h1 h2 h3 => ⟨fun j hj => ⟨((hcs i h1 h2 h3).1 j hj).1, (hvals i h1 h2 h3).1 j hj⟩, fun k h4 h5 => ⟨(hcs i h1 h2 h3).2 k h4 h5, (hvals i h1 h2 h3).2 k h4 h5⟩⟩) (fun xf2 w2 ls H locs hfr2 hXf2 hx2 hw hl => ?_) n 0 xf w_3 ls H locs (by omega) (fun _ _ => rfl) hc_10 (fun i k h1 h2 => by rw [hxx i k h1 h2]; dsimp only; rw [if_neg (by omega)]) hw (lv_sub hl [1, 0] rfl)
  have hM2 : w2 77 = .inr (4, [.int (nI 0), .int (nI n), .int (nI t), .int (nI 0), .ref (ad 78), .ref (ad 79), .ref (ad 80), .ref (ad 81), .ref (ad 82), .ref (ad 83), .int (nI qu), .ref (ad 84), .ref (ad 85), .ref (ad 86), .int (nI en), .int (nI kp), .ref (ad 87), .long hs]) := (hfr2 77 (by decide)).trans hc_4
  refine lv_aload_n hx hb dX5_complain_113 rfl (lv_at hl 0 rfl) ?_
  refine lv_iconst (v := nI 0) hx hb dX5_complain_114 (by decide) ?_
  refine x_callW1 (As := [.int (nI 0)]) (rest := []) hC vf_X5_106 hw hA (by decide) hM2 rfl rfl (k5_complaints l _ _ _ _ _ _ _ _ xf2 hn (fun i => if 1 ≤ i ∧ i ≤ n ∧ dl i = 1 then gath (cp i) (sh i) (rgt (co i) t) n else cp i) hx2 0 (by decide) hM2 hXf2) ⟨rfl, rfl, Nat.le_of_ble_eq_true rfl, Nat.le_of_ble_eq_true rfl⟩ hl.1 (Nat.le_of_ble_eq_true rfl) dX5_complain_115 ⟨Nat.zero_le _, Nat.zero_le _⟩ rfl (fun w_16 H locs hu hw => ?_)
  rw [hu] at hw
  rw [rct_0 hn (fun i k q => (ncp_b hcb i k q).1)]
  have hall : ∀ z, z ≠ 77 → z ≠ 83 → w2 z = w z := fun z h1 h2 => (hfr2 z h2).trans (hf1 z h1)
  exact x_wretI hx hb hr hlocks hw ⟨fun z hz => hall z (by omega) (by omega), ⟨_, hM2⟩, RMd.of ⟨dz, oz, hDz, hOz, hdo⟩ (hall 78 (by decide) (by decide)) (hall 79 (by decide) (by decide)), RMc.of ⟨cf, mf, sf, hCf, hMf, hSf, hcs⟩ (hall 80 (by decide) (by decide)) (hall 81 (by decide) (by decide)) (hall 82 (by decide) (by decide)), ⟨xf2, hXf2, hx2⟩, RMk.of ⟨kyf, swf, hKy, hSw, hks⟩ (hall 84 (by decide) (by decide)) (hall 85 (by decide) (by decide)), RMv.of ⟨vlf, hVl, hvl⟩ (hall 86 (by decide) (by decide)), RMp.of ⟨plf, hPl, hpl⟩ (hall 87 (by decide) (by decide))⟩ dX5_complain_118
set_option maxHeartbeats 4000000 in
set_option maxRecDepth 100000 in
theorem m_complainS (l : Launch) {D : va_G} {cI cJ cZ cD : ClassId} {ad : Nat → Nat} {w : Nat → va_E} {sz : Nat} (n t cl qu en kp : Nat) (dl ou cp ks pt : Nat → Nat) (co sh : Nat → Nat → Nat) (vs : Nat → Int64) (cd : Int32) (hok : OkS n t cl qu en kp dl ou cp ks pt co sh) (hRM : RM ad cJ cZ w cd n t cl qu en kp dl ou cp ks pt co sh vs) (hcl0 : cl = 1)  : MW l yX5_complain (.code yX5_complain cX5_complain 3 (some .int)) ({ frames := 1, cells := 0, slots := 0, locals := 35 }) [.ref (ad 77)] D (tyL cI cJ cZ cD) ad 89 w sz (some (.int (nI 0))) (fun u => (∀ z, z < 77 ∨ 87 < z → u z = w z) ∧ RM ad cJ cZ u (nI 1) n t 1 qu en kp dl ou cp ks pt co sh vs) := by
  refine MW.of (by decide) (Nat.le_of_ble_eq_true rfl) ?_
  intro p e s m below meth c ls hC hr hlocks hl hw
  obtain ⟨hx, hb, hml, hown, hts⟩ := id hC
  have hA : ∀ q, s.heap.size ≤ q → xA ad 89 s.heap.size q := fun q h => Or.inr h
  have hl : lv_has ls 3 [(0, .ref (ad 77))] := hl
  obtain ⟨⟨hs, hM⟩, ⟨dz, oz, hDz, hOz, hdo⟩, ⟨cf, mf, sf, hCf, hMf, hSf, hcs⟩, ⟨xf, hXf, hxx⟩, ⟨kyf, swf, hKy, hSw, hks⟩, ⟨vlf, hVl, hvl⟩, ⟨plf, hPl, hpl⟩⟩ := id hRM
  obtain ⟨⟨hn, ht, hcl, hqu, hen, hkp⟩, hle, ⟨hqb, hkb, hcb⟩, hvals, hclv, hptl, ⟨hz1, hz2, hz3⟩⟩ := id hok
  subst hcl0
  refine lv_aload_n hx hb dX5_complain_0 rfl (lv_at hl 0 rfl) ?_
  refine lv_aload_n hx hb dX5_complain_1 rfl (lv_at hl 0 rfl) ?_
  refine gf_X5_71 hx hb hts hown hw (by decide) hM rfl dX5_complain_2 ?_
  refine lv_if_eq (tgt := 12) hx hb dX5_complain_5 (by decide) (fun q_1 => absurd q_1 (by decide)) (fun q_1 => ?_)
  refine lv_iconst (v := nI 1) hx hb dX5_complain_8 (by decide) ?_
  refine lv_goto (tgt := 13) hx hb dX5_complain_9 (by decide) ?_
  refine x_callW1 (As := [.int (nI 1)]) (rest := []) hC vf_X5_64 hw hA (by decide) hM rfl rfl (k5_refuses1 l _ _ _ _ _ _ _ _ hM) ⟨rfl, rfl, Nat.le_of_ble_eq_true rfl, Nat.le_of_ble_eq_true rfl⟩ hl.1 (Nat.le_of_ble_eq_true rfl) dX5_complain_13 ⟨Nat.zero_le _, Nat.zero_le _⟩ rfl (fun w_3 H locs hu_2 hw => ?_)
  have hc_4 : w_3 77 = .inr (4, [.int (nI 1), .int (nI n), .int (nI t), .int (nI 1), .ref (ad 78), .ref (ad 79), .ref (ad 80), .ref (ad 81), .ref (ad 82), .ref (ad 83), .int (nI qu), .ref (ad 84), .ref (ad 85), .ref (ad 86), .int (nI en), .int (nI kp), .ref (ad 87), .long hs]) := by rw [hu_2]; exact va_up_self _ _ _
  have hc_5 : w_3 78 = .inl (cZ, 17, .inl dz) := by rw [hu_2, va_up_ne _ _ (by decide)]; exact hDz
  have hc_6 : w_3 79 = .inl (cZ, 17, .inl oz) := by rw [hu_2, va_up_ne _ _ (by decide)]; exact hOz
  have hc_7 : w_3 80 = .inl (cJ, 289, .inr (.inl cf)) := by rw [hu_2, va_up_ne _ _ (by decide)]; exact hCf
  have hc_8 : w_3 81 = .inl (cJ, 289, .inr (.inl mf)) := by rw [hu_2, va_up_ne _ _ (by decide)]; exact hMf
  have hc_9 : w_3 82 = .inl (cJ, 289, .inr (.inl sf)) := by rw [hu_2, va_up_ne _ _ (by decide)]; exact hSf
  have hc_10 : w_3 83 = .inl (cZ, 289, .inl xf) := by rw [hu_2, va_up_ne _ _ (by decide)]; exact hXf
  have hc_11 : w_3 84 = .inl (cJ, 17, .inr (.inl kyf)) := by rw [hu_2, va_up_ne _ _ (by decide)]; exact hKy
  have hc_12 : w_3 85 = .inl (cJ, 17, .inr (.inl swf)) := by rw [hu_2, va_up_ne _ _ (by decide)]; exact hSw
  have hc_13 : w_3 86 = .inl (cJ, 301, .inr (.inl vlf)) := by rw [hu_2, va_up_ne _ _ (by decide)]; exact hVl
  have hc_14 : w_3 87 = .inl (cJ, 17, .inr (.inl plf)) := by rw [hu_2, va_up_ne _ _ (by decide)]; exact hPl
  refine lv_if_eq (tgt := 21) hx hb dX5_complain_16 (by decide) (fun q_15 => absurd q_15 (by decide)) (fun q_15 => ?_)
  refine lv_iconst (v := nI 0) hx hb dX5_complain_19 (by decide) ?_
  have hfr : ∀ z, z ≠ 77 → w_3 z = w z := fun z hhfr0 => by rw [hu_2, va_up_ne _ _ hhfr0]
  exact x_wretI hx hb hr hlocks hw ⟨fun z hz => hfr z (by omega), RM.set77 hRM hfr hc_4⟩ dX5_complain_20
set_option maxHeartbeats 4000000 in
set_option maxRecDepth 100000 in
theorem k5_isQualified (l : Launch) {D : va_G} {cI cJ cZ cD : ClassId} {ad : Nat → Nat} {w : Nat → va_E} {sz : Nat} (cd : Int32) (n t cl qu en kp : Nat) (hs : Int64) (dz : Nat → Int32) (oz : Nat → Int32) (xf : Nat → Int32) (hn : n ≤ 16) (dl ou cp : Nat → Nat) (hdo : ∀ i, i < 17 → dz i = nI (dl i) ∧ oz i = nI (ou i)) (hxx : ∀ i k, i < 17 → k < 17 → xf (17 * i + k) = nI (tb (cp i) k)) (hle : ∀ i, dl i ≤ 1 ∧ ou i ≤ 1 ∧ cp i < 2 ^ 17) (hcb : ∀ i k, tb (cp i) k = 1 → (1 ≤ k ∧ k ≤ n) ∧ dl i = 1) (i : Nat) (h1 : 1 ≤ i) (h2 : i ≤ n) (hM : w 77 = .inr (4, [.int cd, .int (nI n), .int (nI t), .int (nI cl), .ref (ad 78), .ref (ad 79), .ref (ad 80), .ref (ad 81), .ref (ad 82), .ref (ad 83), .int (nI qu), .ref (ad 84), .ref (ad 85), .ref (ad 86), .int (nI en), .int (nI kp), .ref (ad 87), .long hs])) (hDz : w 78 = .inl (cZ, 17, .inl dz)) (hOz : w 79 = .inl (cZ, 17, .inl oz)) (hXf : w 83 = .inl (cZ, 289, .inl xf)) : MW l yX5_isQualified (.code yX5_isQualified cX5_isQualified 2 (some .boolean)) ({ frames := 1, cells := 0, slots := 0, locals := 32 }) [.ref (ad 77), .int (nI i)] D (tyL cI cJ cZ cD) ad 89 w sz (some (.int (nI (mq dl ou cp i)))) (fun u => u = w) := by
  refine MW.of (by decide) (Nat.le_of_ble_eq_true rfl) ?_
  intro p e s m below meth c ls hC hr hlocks hl hw
  obtain ⟨hx, hb, hml, hown, hts⟩ := id hC
  have hA : ∀ q, s.heap.size ≤ q → xA ad 89 s.heap.size q := fun q h => Or.inr h
  have hl : lv_has ls 2 [(0, .ref (ad 77)), (1, .int (nI i))] := hl
  obtain ⟨g1, g2, g3⟩ := hle i
  have hrl := cnt_le (f := rct cp i n) (b := n) (fun k => rct_le cp i n k) n
  have hqn : n * n ≤ 16 * 16 := Nat.mul_le_mul hn hn
  refine lv_aload_n hx hb dX5_isQualified_0 rfl (lv_at hl 0 rfl) ?_
  refine gf_X5_7 hx hb hts hown hw (by decide) hM rfl dX5_isQualified_1 ?_
  refine lv_iload_n hx hb dX5_isQualified_4 rfl (lv_at hl 1 rfl) ?_
  refine x_zald hx hb hw (by decide) 2 hDz rfl (j := i) (by omega) (by decide) (hdo i (by omega)).1 dX5_isQualified_5 ?_
  refine lv_if_eq (tgt := 30) hx hb dX5_isQualified_6 (by decide) (fun q1 => ?_) (fun q1 => ?_)
  · rw [nI_z (by omega)] at q1
    rw [show mq dl ou cp i = 0 from if_neg (by omega)]
    refine lv_iconst (v := nI 0) hx hb dX5_isQualified_30 (by decide) ?_
    exact x_wretZ hx hb hr hlocks (by decide) hw rfl dX5_isQualified_31
  · rw [nI_z (by omega)] at q1
    refine lv_aload_n hx hb dX5_isQualified_9 rfl (lv_at hl 0 rfl) ?_
    refine gf_X5_13 hx hb hts hown hw (by decide) hM rfl dX5_isQualified_10 ?_
    refine lv_iload_n hx hb dX5_isQualified_13 rfl (lv_at hl 1 rfl) ?_
    refine x_zald hx hb hw (by decide) 2 hOz rfl (j := i) (by omega) (by decide) (hdo i (by omega)).2 dX5_isQualified_14 ?_
    refine lv_if_ne (tgt := 30) hx hb dX5_isQualified_15 (by decide) (fun q2 => ?_) (fun q2 => ?_)
    · rw [nI_z (by omega)] at q2
      rw [show mq dl ou cp i = 0 from if_neg (by omega)]
      refine lv_iconst (v := nI 0) hx hb dX5_isQualified_30 (by decide) ?_
      exact x_wretZ hx hb hr hlocks (by decide) hw rfl dX5_isQualified_31
    · rw [nI_z (by omega)] at q2
      refine lv_aload_n hx hb dX5_isQualified_18 rfl (lv_at hl 0 rfl) ?_
      refine lv_iload_n hx hb dX5_isQualified_19 rfl (lv_at hl 1 rfl) ?_
      refine x_callW1 (As := [.int (nI i)]) (rest := []) hC vf_X5_106 hw hA (by decide) hM rfl rfl (k5_complaints l _ _ _ _ _ _ _ _ xf hn cp hxx i (by omega) hM hXf) ⟨rfl, rfl, Nat.le_of_ble_eq_true rfl, Nat.le_of_ble_eq_true rfl⟩ hl.1 (Nat.le_of_ble_eq_true rfl) dX5_isQualified_20 ⟨Nat.zero_le _, Nat.zero_le _⟩ rfl (fun w_1 H locs hu hw => ?_)
      rw [hu] at hw
      refine lv_if_ne (tgt := 30) hx hb dX5_isQualified_23 (by decide) (fun q3 => ?_) (fun q3 => ?_)
      · rw [nI_z (by omega)] at q3
        rw [rct_d h1 h2, cnt0_cp hn g3 (fun k q => (hcb i k q).1)] at q3
        rw [show mq dl ou cp i = 0 from if_neg (fun q => q3 q.2.2)]
        refine lv_iconst (v := nI 0) hx hb dX5_isQualified_30 (by decide) ?_
        exact x_wretZ hx hb hr hlocks (by decide) hw rfl dX5_isQualified_31
      · rw [nI_z (by omega)] at q3
        rw [rct_d h1 h2, cnt0_cp hn g3 (fun k q => (hcb i k q).1)] at q3
        rw [show mq dl ou cp i = 1 from if_pos ⟨by omega, by omega, q3⟩]
        refine lv_iconst (v := nI 1) hx hb dX5_isQualified_26 (by decide) ?_
        refine lv_goto (tgt := 31) hx hb dX5_isQualified_27 (by decide) ?_
        exact x_wretZ hx hb hr hlocks (by decide) hw rfl dX5_isQualified_31
set_option maxHeartbeats 4000000 in
set_option maxRecDepth 100000 in
theorem k5_close1 {l : Launch} {p : Program} {e : Env} {s : State} {m : MethodId} {args : Array Value} {below : List Frame} {meth : Method} {c : Code} {Q : State → Prop} {D : va_G} {cI cJ cZ cD : ClassId} {ad : Nat → Nat} {A : Nat → Prop} {H0 : Heap} {w : Nat → va_E} (hC : CallFix p m c cX5_close 9 s args wsL_law RX5) (hA : ∀ q, H0.size ≤ q → A q) (cd : Int32) (n t cl qu en kp : Nat) (hs : Int64) (dz : Nat → Int32) (oz : Nat → Int32) (xf : Nat → Int32) (hn : n ≤ 16) (dl ou cp : Nat → Nat) (hdo : ∀ i, i < 17 → dz i = nI (dl i) ∧ oz i = nI (ou i)) (hxx : ∀ i k, i < 17 → k < 17 → xf (17 * i + k) = nI (tb (cp i) k)) (hle : ∀ i, dl i ≤ 1 ∧ ou i ≤ 1 ∧ cp i < 2 ^ 17) (hcb : ∀ i k, tb (cp i) k = 1 → (1 ≤ k ∧ k ≤ n) ∧ dl i = 1) (z : Int64) (hM : w 77 = .inr (4, [.int cd, .int (nI n), .int (nI t), .int (nI cl), .ref (ad 78), .ref (ad 79), .ref (ad 80), .ref (ad 81), .ref (ad 82), .ref (ad 83), .int (nI qu), .ref (ad 84), .ref (ad 85), .ref (ad 86), .int (nI en), .int (nI kp), .ref (ad 87), .long hs])) (hDz : w 78 = .inl (cZ, 17, .inl dz)) (hOz : w 79 = .inl (cZ, 17, .inl oz)) (hXf : w 83 = .inl (cZ, 289, .inl xf))
    (kx : ∀  (ls : Array Slot) (H : Heap) (locs : List Loc),  WW D vwCl (tyL cI cJ cZ cD) A H0 ad 89 w s H locs → lv_has ls 9 [(0, .ref (ad 77)), (1, .long z), (3, .int (nI (qf dl ou cp n))), (4, .int (nI (cnt (mq dl ou cp) n)))] → W p l e ({ frames := 2, cells := 0, slots := 0, locals := 72 }) s m args below meth c H locs 0 0 Q (F0 m 62 ls [])) :
    ∀ (j q : Nat)  (ls : Array Slot) (H : Heap) (locs : List Loc), q + j = n →  WW D vwCl (tyL cI cJ cZ cD) A H0 ad 89 w s H locs → lv_has ls 9 [(0, .ref (ad 77)), (1, .long z), (3, .int (nI (qf dl ou cp q))), (4, .int (nI (cnt (mq dl ou cp) q))), (5, .int (nI (q + 1)))] → W p l e ({ frames := 2, cells := 0, slots := 0, locals := 72 }) s m args below meth c H locs 0 0 Q (F0 m 8 ls []) := by
  obtain ⟨hx, hb, hml, hown, hts⟩ := id hC
  intro j
  induction j with
  | zero =>
    intro q  ls H locs hq  hw hl
    obtain rfl : n = q := by omega
    have hl : lv_has ls 9 [(0, .ref (ad 77)), (1, .long z), (3, .int (nI (qf dl ou cp n))), (4, .int (nI (cnt (mq dl ou cp) n))), (5, .int (nI (n + 1)))] := hl
    refine lv_iload hx hb dX5_close_8 (lv_at hl 4 rfl) ?_
    refine lv_aload_n hx hb dX5_close_10 rfl (lv_at hl 0 rfl) ?_
    refine gf_X5_59 hx hb hts hown hw (by decide) hM rfl dX5_close_11 ?_
    refine lv_icmp_gt (tgt := 62) hx hb dX5_close_14 (by decide) (fun hc => ?_) (fun hc => absurd (nI_lt (by omega) (by omega)) hc)
    exact kx  ls H locs  hw (lv_sub hl [0, 1, 2, 3] rfl)
  | succ j ih =>
    intro q  ls H locs hq  hw hl
    refine lv_iload hx hb dX5_close_8 (lv_at hl 4 rfl) ?_
    refine lv_aload_n hx hb dX5_close_10 rfl (lv_at hl 0 rfl) ?_
    refine gf_X5_59 hx hb hts hown hw (by decide) hM rfl dX5_close_11 ?_
    refine lv_icmp_gt (tgt := 62) hx hb dX5_close_14 (by decide) (fun hc => absurd hc (nI_nlt (by omega) (by omega))) (fun hc => ?_)
    have hql := qf_lt dl ou cp q (by omega)
    have hcl := cnt_le (f := mq dl ou cp) (b := 1) (fun k => mq_le dl ou cp k) q
    by_cases hy : dl (q + 1) = 1 ∧ ou (q + 1) = 0 ∧ cp (q + 1) = 0
    · skip
      have hmq : mq dl ou cp (q + 1) = 1 := if_pos hy
      refine lv_iload_n hx hb dX5_close_17 rfl (lv_at hl 2 rfl) ?_
      refine lv_aload_n hx hb dX5_close_18 rfl (lv_at hl 0 rfl) ?_
      refine lv_iload hx hb dX5_close_19 (lv_at hl 4 rfl) ?_
      refine x_callW1 (As := [.int (nI (q + 1))]) (rest := [.int (nI (qf dl ou cp q))]) hC vf_X5_110 hw hA (by decide) hM rfl rfl (k5_isQualified l _ _ _ _ _ _ _ _ dz oz xf hn dl ou cp hdo hxx hle hcb (q + 1) (by omega) (by omega) hM hDz hOz hXf) ⟨rfl, rfl, Nat.le_of_ble_eq_true rfl, Nat.le_of_ble_eq_true rfl⟩ hl.1 (Nat.le_of_ble_eq_true rfl) dX5_close_21 ⟨Nat.zero_le _, Nat.zero_le _⟩ rfl (fun w_1 H locs hu hw => ?_)
      rw [hu] at hw
      rw [hmq]
      refine lv_if_eq (tgt := 34) hx hb dX5_close_24 (by decide) (fun h1 => absurd h1 (by decide)) (fun h1 => ?_)
      refine lv_iconst (v := nI 1) hx hb dX5_close_27 (by decide) ?_
      refine lv_iload hx hb dX5_close_28 (lv_at hl 4 rfl) ?_
      refine lv_ishl hx hb dX5_close_30 ?_
      refine lv_goto (tgt := 35) hx hb dX5_close_31 (by decide) ?_
      refine lv_ior hx hb dX5_close_35 ?_
      rw [or_bit (by omega)]
      refine lv_istore_n (lv' := [(3, .int (nI (qf dl ou cp q ||| 2 ^ (q + 1)))), (0, .ref (ad 77)), (1, .long z), (4, .int (nI (cnt (mq dl ou cp) q))), (5, .int (nI (q + 1)))]) hx hb dX5_close_36 rfl hl (by decide) rfl (fun ls hl => ?_)
      refine lv_iload hx hb dX5_close_37 (lv_at hl 3 rfl) ?_
      refine lv_aload_n hx hb dX5_close_39 rfl (lv_at hl 1 rfl) ?_
      refine lv_iload hx hb dX5_close_40 (lv_at hl 4 rfl) ?_
      refine x_callW1 (As := [.int (nI (q + 1))]) (rest := [.int (nI (cnt (mq dl ou cp) q))]) hC vf_X5_110 hw hA (by decide) hM rfl rfl (k5_isQualified l _ _ _ _ _ _ _ _ dz oz xf hn dl ou cp hdo hxx hle hcb (q + 1) (by omega) (by omega) hM hDz hOz hXf) ⟨rfl, rfl, Nat.le_of_ble_eq_true rfl, Nat.le_of_ble_eq_true rfl⟩ hl.1 (Nat.le_of_ble_eq_true rfl) dX5_close_42 ⟨Nat.zero_le _, Nat.zero_le _⟩ rfl (fun w_2 H locs hu hw => ?_)
      rw [hu] at hw
      rw [hmq]
      refine lv_if_eq (tgt := 52) hx hb dX5_close_45 (by decide) (fun h2 => absurd h2 (by decide)) (fun h2 => ?_)
      refine lv_iconst (v := nI 1) hx hb dX5_close_48 (by decide) ?_
      refine lv_goto (tgt := 53) hx hb dX5_close_49 (by decide) ?_
      refine t_iadd hx hb dX5_close_53 (v := nI (cnt (mq dl ou cp) q + 1)) (nI_add _ _) ?_
      refine lv_istore (lv' := [(4, .int (nI (cnt (mq dl ou cp) q + 1))), (3, .int (nI (qf dl ou cp q ||| 2 ^ (q + 1)))), (0, .ref (ad 77)), (1, .long z), (5, .int (nI (q + 1)))]) hx hb dX5_close_54 hl (by decide) rfl (fun ls hl => ?_)
      refine lv_iinc (v := nI (q + 1 + 1)) (lv' := [(5, .int (nI (q + 1 + 1))), (4, .int (nI (cnt (mq dl ou cp) q + 1))), (3, .int (nI (qf dl ou cp q ||| 2 ^ (q + 1)))), (0, .ref (ad 77)), (1, .long z)]) hx hb dX5_close_56 hl (k := 4) rfl (nI_1 (q + 1)) (by decide) rfl (fun ls hl => ?_)
      refine lv_goto (tgt := 8) hx hb dX5_close_59 (by decide) ?_
      refine ih (q + 1)  ls H locs (by omega)  hw (lv_sub hl [3, 4, 2, 1, 0] (by rw [show qf dl ou cp (q + 1) = _ from if_pos hy, show cnt (mq dl ou cp) (q + 1) = cnt (mq dl ou cp) q + 1 from by show _ + mq dl ou cp (q + 1) = _; rw [hmq]]; rfl))
    · skip
      have hmq : mq dl ou cp (q + 1) = 0 := if_neg hy
      refine lv_iload_n hx hb dX5_close_17 rfl (lv_at hl 2 rfl) ?_
      refine lv_aload_n hx hb dX5_close_18 rfl (lv_at hl 0 rfl) ?_
      refine lv_iload hx hb dX5_close_19 (lv_at hl 4 rfl) ?_
      refine x_callW1 (As := [.int (nI (q + 1))]) (rest := [.int (nI (qf dl ou cp q))]) hC vf_X5_110 hw hA (by decide) hM rfl rfl (k5_isQualified l _ _ _ _ _ _ _ _ dz oz xf hn dl ou cp hdo hxx hle hcb (q + 1) (by omega) (by omega) hM hDz hOz hXf) ⟨rfl, rfl, Nat.le_of_ble_eq_true rfl, Nat.le_of_ble_eq_true rfl⟩ hl.1 (Nat.le_of_ble_eq_true rfl) dX5_close_21 ⟨Nat.zero_le _, Nat.zero_le _⟩ rfl (fun w_3 H locs hu hw => ?_)
      rw [hu] at hw
      rw [hmq]
      refine lv_if_eq (tgt := 34) hx hb dX5_close_24 (by decide) (fun h1 => ?_) (fun h1 => absurd (by decide) h1)
      refine lv_iconst (v := nI 0) hx hb dX5_close_34 (by decide) ?_
      refine lv_ior hx hb dX5_close_35 ?_
      rw [or_z]
      refine lv_istore_n (lv' := [(3, .int (nI (qf dl ou cp q))), (0, .ref (ad 77)), (1, .long z), (4, .int (nI (cnt (mq dl ou cp) q))), (5, .int (nI (q + 1)))]) hx hb dX5_close_36 rfl hl (by decide) rfl (fun ls hl => ?_)
      refine lv_iload hx hb dX5_close_37 (lv_at hl 3 rfl) ?_
      refine lv_aload_n hx hb dX5_close_39 rfl (lv_at hl 1 rfl) ?_
      refine lv_iload hx hb dX5_close_40 (lv_at hl 4 rfl) ?_
      refine x_callW1 (As := [.int (nI (q + 1))]) (rest := [.int (nI (cnt (mq dl ou cp) q))]) hC vf_X5_110 hw hA (by decide) hM rfl rfl (k5_isQualified l _ _ _ _ _ _ _ _ dz oz xf hn dl ou cp hdo hxx hle hcb (q + 1) (by omega) (by omega) hM hDz hOz hXf) ⟨rfl, rfl, Nat.le_of_ble_eq_true rfl, Nat.le_of_ble_eq_true rfl⟩ hl.1 (Nat.le_of_ble_eq_true rfl) dX5_close_42 ⟨Nat.zero_le _, Nat.zero_le _⟩ rfl (fun w_4 H locs hu hw => ?_)
      rw [hu] at hw
      rw [hmq]
      refine lv_if_eq (tgt := 52) hx hb dX5_close_45 (by decide) (fun h2 => ?_) (fun h2 => absurd (by decide) h2)
      refine lv_iconst (v := nI 0) hx hb dX5_close_52 (by decide) ?_
      refine t_iadd hx hb dX5_close_53 (v := nI (cnt (mq dl ou cp) q + 0)) (nI_add _ _) ?_
      refine lv_istore (lv' := [(4, .int (nI (cnt (mq dl ou cp) q + 0))), (3, .int (nI (qf dl ou cp q))), (0, .ref (ad 77)), (1, .long z), (5, .int (nI (q + 1)))]) hx hb dX5_close_54 hl (by decide) rfl (fun ls hl => ?_)
      refine lv_iinc (v := nI (q + 1 + 1)) (lv' := [(5, .int (nI (q + 1 + 1))), (4, .int (nI (cnt (mq dl ou cp) q + 0))), (3, .int (nI (qf dl ou cp q))), (0, .ref (ad 77)), (1, .long z)]) hx hb dX5_close_56 hl (k := 4) rfl (nI_1 (q + 1)) (by decide) rfl (fun ls hl => ?_)
      refine lv_goto (tgt := 8) hx hb dX5_close_59 (by decide) ?_
      refine ih (q + 1)  ls H locs (by omega)  hw (lv_sub hl [3, 4, 2, 1, 0] (by rw [show qf dl ou cp (q + 1) = _ from if_neg hy, show cnt (mq dl ou cp) (q + 1) = cnt (mq dl ou cp) q + 0 from by show _ + mq dl ou cp (q + 1) = _; rw [hmq]]; rfl))
set_option maxHeartbeats 4000000 in
set_option maxRecDepth 100000 in
theorem k5_close_sum {l : Launch} {p : Program} {e : Env} {s : State} {m : MethodId} {args : Array Value} {below : List Frame} {meth : Method} {c : Code} {Q : State → Prop} {D : va_G} {cI cJ cZ cD : ClassId} {ad : Nat → Nat} {A : Nat → Prop} {H0 : Heap} {w : Nat → va_E} (hC : CallFix p m c cX5_close 9 s args wsL_law RX5) (hA : ∀ q, H0.size ≤ q → A q) (cd : Int32) (n t cl qu en kp : Nat) (hs : Int64) (cf : Nat → Int64) (sf : Nat → Int64) (hn : n ≤ 16) (b mny k : Nat) (hb0 : b < 2 ^ 17) (hk : k ≤ 16) (F : Nat → Nat) (hF : ∀ i, 1 ≤ i → i ≤ n → tb b i = 1 → (k = 0 → cf (17 * i) = lN (F i)) ∧ (k ≠ 0 → sf (17 * i + k) = lN (F i)) ∧ F i < 1073741789) (hM : w 77 = .inr (4, [.int cd, .int (nI n), .int (nI t), .int (nI cl), .ref (ad 78), .ref (ad 79), .ref (ad 80), .ref (ad 81), .ref (ad 82), .ref (ad 83), .int (nI qu), .ref (ad 84), .ref (ad 85), .ref (ad 86), .int (nI en), .int (nI kp), .ref (ad 87), .long hs])) (hCf : w 80 = .inl (cJ, 289, .inr (.inl cf))) (hSf : w 82 = .inl (cJ, 289, .inr (.inl sf)))
    (kx : ∀  (ls : Array Slot) (H : Heap) (locs : List Loc),  WW D vwCl (tyL cI cJ cZ cD) A H0 ad 89 w s H locs → lv_has ls 9 [(0, .ref (ad 77)), (3, .int (nI b)), (4, .int (nI mny)), (5, .int (nI k)), (6, .long (lN (ssm b (fun i _ => F i) 0 n)))] → W p l e ({ frames := 2, cells := 0, slots := 0, locals := 72 }) s m args below meth c H locs 0 0 Q (F0 m 197 ls [])) :
    ∀ (j q : Nat)  (ls : Array Slot) (H : Heap) (locs : List Loc), q + j = n →  WW D vwCl (tyL cI cJ cZ cD) A H0 ad 89 w s H locs → lv_has ls 9 [(0, .ref (ad 77)), (3, .int (nI b)), (4, .int (nI mny)), (5, .int (nI k)), (6, .long (lN (ssm b (fun i _ => F i) 0 q))), (8, .int (nI (q + 1)))] → W p l e ({ frames := 2, cells := 0, slots := 0, locals := 72 }) s m args below meth c H locs 0 0 Q (F0 m 133 ls []) := by
  obtain ⟨hx, hb, hml, hown, hts⟩ := id hC
  intro j
  induction j with
  | zero =>
    intro q  ls H locs hq  hw hl
    obtain rfl : n = q := by omega
    have hl : lv_has ls 9 [(0, .ref (ad 77)), (3, .int (nI b)), (4, .int (nI mny)), (5, .int (nI k)), (6, .long (lN (ssm b (fun i _ => F i) 0 n))), (8, .int (nI (n + 1)))] := hl
    refine lv_iload hx hb dX5_close_133 (lv_at hl 5 rfl) ?_
    refine lv_aload_n hx hb dX5_close_135 rfl (lv_at hl 0 rfl) ?_
    refine gf_X5_59 hx hb hts hown hw (by decide) hM rfl dX5_close_136 ?_
    refine lv_icmp_gt (tgt := 197) hx hb dX5_close_139 (by decide) (fun hc => ?_) (fun hc => absurd (nI_lt (by omega) (by omega)) hc)
    exact kx  ls H locs  hw (lv_sub hl [0, 1, 2, 3, 4] rfl)
  | succ j ih =>
    intro q  ls H locs hq  hw hl
    refine lv_iload hx hb dX5_close_133 (lv_at hl 5 rfl) ?_
    refine lv_aload_n hx hb dX5_close_135 rfl (lv_at hl 0 rfl) ?_
    refine gf_X5_59 hx hb hts hown hw (by decide) hM rfl dX5_close_136 ?_
    refine lv_icmp_gt (tgt := 197) hx hb dX5_close_139 (by decide) (fun hc => absurd hc (nI_nlt (by omega) (by omega))) (fun hc => ?_)
    have hsl := ssm_le (qu := b) (n := n) (k := 0) (sh := fun i _ => F i) (fun i g1 g2 g3 => (hF i g1 g2 g3).2.2) q (by omega)
    have htb := tb_lt b (q + 1)
    refine lv_lload hx hb dX5_close_142 (lv_at hl 4 rfl) ?_
    refine lv_iload_n hx hb dX5_close_144 rfl (lv_at hl 1 rfl) ?_
    refine lv_iload hx hb dX5_close_145 (lv_at hl 5 rfl) ?_
    refine lv_ishr hx hb dX5_close_147 ?_
    refine lv_iconst (v := nI 1) hx hb dX5_close_148 (by decide) ?_
    refine lv_iand hx hb dX5_close_149 ?_
    rw [hb_val (by omega) (by omega)]
    refine lv_if_ne (tgt := 157) hx hb dX5_close_150 (by decide) (fun h1 => ?_) (fun h1 => ?_)
    · rw [nI_z (by omega)] at h1
      obtain ⟨f1, f2, f3⟩ := hF (q + 1) (by omega) (by omega) (by omega)
      refine lv_iload hx hb dX5_close_157 (lv_at hl 3 rfl) ?_
      refine lv_if_ne (tgt := 175) hx hb dX5_close_159 (by decide) (fun h2 => ?_) (fun h2 => ?_)
      · rw [nI_z (by omega)] at h2
        refine lv_aload_n hx hb dX5_close_175 rfl (lv_at hl 0 rfl) ?_
        refine gf_X5_23 hx hb hts hown hw (by decide) hM rfl dX5_close_176 ?_
        refine lv_bipush (v := nI 17) hx hb dX5_close_179 (by decide) ?_
        refine lv_iload hx hb dX5_close_181 (lv_at hl 5 rfl) ?_
        refine t_imul hx hb dX5_close_183 (v := nI (17 * (q + 1))) (pk_mul _ _) ?_
        refine lv_iload hx hb dX5_close_184 (lv_at hl 3 rfl) ?_
        refine t_iadd hx hb dX5_close_186 (v := nI (17 * (q + 1) + k)) (nI_add _ _) ?_
        refine x_lald hx hb hw (by decide) 1 hSf rfl (j := 17 * (q + 1) + k) (by omega) (by decide) (f2 h2) dX5_close_187 ?_
        refine t_ladd hx hb dX5_close_188 (v := lN (ssm b (fun i _ => F i) 0 q + (F (q + 1)))) (lN_add _ _) ?_
        refine lv_lstore (lv' := [(6, .long (lN (ssm b (fun i _ => F i) 0 q + (F (q + 1))))), (0, .ref (ad 77)), (3, .int (nI b)), (4, .int (nI mny)), (5, .int (nI k)), (8, .int (nI (q + 1)))]) hx hb dX5_close_189 hl (by decide) rfl (fun ls hl => ?_)
        refine lv_iinc (v := nI (q + 1 + 1)) (lv' := [(8, .int (nI (q + 1 + 1))), (6, .long (lN (ssm b (fun i _ => F i) 0 q + (F (q + 1))))), (0, .ref (ad 77)), (3, .int (nI b)), (4, .int (nI mny)), (5, .int (nI k))]) hx hb dX5_close_191 hl (k := 5) rfl (nI_1 (q + 1)) (by decide) rfl (fun ls hl => ?_)
        refine lv_goto (tgt := 133) hx hb dX5_close_194 (by decide) ?_
        refine ih (q + 1)  ls H locs (by omega)  hw (lv_sub hl [2, 3, 4, 5, 1, 0] (by rw [show ssm b (fun i _ => F i) 0 (q + 1) = ssm b (fun i _ => F i) 0 q + F (q + 1) from by show _ + (if _ then _ else _) = _; rw [if_pos (by omega)]]; rfl))
      · rw [nI_z (by omega)] at h2
        refine lv_aload_n hx hb dX5_close_162 rfl (lv_at hl 0 rfl) ?_
        refine gf_X5_16 hx hb hts hown hw (by decide) hM rfl dX5_close_163 ?_
        refine lv_bipush (v := nI 17) hx hb dX5_close_166 (by decide) ?_
        refine lv_iload hx hb dX5_close_168 (lv_at hl 5 rfl) ?_
        refine t_imul hx hb dX5_close_170 (v := nI (17 * (q + 1))) (pk_mul _ _) ?_
        refine x_lald hx hb hw (by decide) 1 hCf rfl (j := 17 * (q + 1)) (by omega) (by decide) (f1 h2) dX5_close_171 ?_
        refine lv_goto (tgt := 188) hx hb dX5_close_172 (by decide) ?_
        refine t_ladd hx hb dX5_close_188 (v := lN (ssm b (fun i _ => F i) 0 q + (F (q + 1)))) (lN_add _ _) ?_
        refine lv_lstore (lv' := [(6, .long (lN (ssm b (fun i _ => F i) 0 q + (F (q + 1))))), (0, .ref (ad 77)), (3, .int (nI b)), (4, .int (nI mny)), (5, .int (nI k)), (8, .int (nI (q + 1)))]) hx hb dX5_close_189 hl (by decide) rfl (fun ls hl => ?_)
        refine lv_iinc (v := nI (q + 1 + 1)) (lv' := [(8, .int (nI (q + 1 + 1))), (6, .long (lN (ssm b (fun i _ => F i) 0 q + (F (q + 1))))), (0, .ref (ad 77)), (3, .int (nI b)), (4, .int (nI mny)), (5, .int (nI k))]) hx hb dX5_close_191 hl (k := 5) rfl (nI_1 (q + 1)) (by decide) rfl (fun ls hl => ?_)
        refine lv_goto (tgt := 133) hx hb dX5_close_194 (by decide) ?_
        refine ih (q + 1)  ls H locs (by omega)  hw (lv_sub hl [2, 3, 4, 5, 1, 0] (by rw [show ssm b (fun i _ => F i) 0 (q + 1) = ssm b (fun i _ => F i) 0 q + F (q + 1) from by show _ + (if _ then _ else _) = _; rw [if_pos (by omega)]]; rfl))
    · rw [nI_z (by omega)] at h1
      refine lv_lconst (v := lN 0) hx hb dX5_close_153 (by decide) ?_
      refine lv_goto (tgt := 188) hx hb dX5_close_154 (by decide) ?_
      refine t_ladd hx hb dX5_close_188 (v := lN (ssm b (fun i _ => F i) 0 q + 0)) (lN_add _ _) ?_
      refine lv_lstore (lv' := [(6, .long (lN (ssm b (fun i _ => F i) 0 q + 0))), (0, .ref (ad 77)), (3, .int (nI b)), (4, .int (nI mny)), (5, .int (nI k)), (8, .int (nI (q + 1)))]) hx hb dX5_close_189 hl (by decide) rfl (fun ls hl => ?_)
      refine lv_iinc (v := nI (q + 1 + 1)) (lv' := [(8, .int (nI (q + 1 + 1))), (6, .long (lN (ssm b (fun i _ => F i) 0 q + 0))), (0, .ref (ad 77)), (3, .int (nI b)), (4, .int (nI mny)), (5, .int (nI k))]) hx hb dX5_close_191 hl (k := 5) rfl (nI_1 (q + 1)) (by decide) rfl (fun ls hl => ?_)
      refine lv_goto (tgt := 133) hx hb dX5_close_194 (by decide) ?_
      refine ih (q + 1)  ls H locs (by omega)  hw (lv_sub hl [2, 3, 4, 5, 1, 0] (by rw [show ssm b (fun i _ => F i) 0 (q + 1) = ssm b (fun i _ => F i) 0 q + 0 from by show _ + (if _ then _ else _) = _; rw [if_neg (by omega)]]; rfl))
theorem ssm_const (b : Nat) (sh : Nat → Nat → Nat) (k : Nat) : ∀ n, ssm b (fun i _ => sh i k) 0 n = ssm b sh k n := by
  intro n
  induction n with
  | zero => rfl
  | succ n ih =>
    show ssm b (fun i _ => sh i k) 0 n + _ = ssm b sh k n + _
    rw [ih]
theorem ksF_F (b : Nat) (co sh : Nat → Nat → Nat) (n k : Nat) : ssm b (fun i _ => if k = 0 then co i 0 else sh i k) 0 n % 1073741789 = ksF b co sh n k := by
  unfold ksF csm
  by_cases hk : k = 0
  · subst hk; rw [if_pos rfl]; rfl
  · rw [if_neg hk, ← ssm_const b sh k n]
    simp only [if_neg hk]

set_option maxHeartbeats 4000000 in
set_option maxRecDepth 100000 in
theorem k5_close2 {l : Launch} {p : Program} {e : Env} {s : State} {m : MethodId} {args : Array Value} {below : List Frame} {meth : Method} {c : Code} {Q : State → Prop} {D : va_G} {cI cJ cZ cD : ClassId} {ad : Nat → Nat} {A : Nat → Prop} {H0 : Heap} {w0 : Nat → va_E} (hC : CallFix p m c cX5_close 9 s args wsL_law RX5) (hA : ∀ q, H0.size ≤ q → A q) (cd : Int32) (n t cl qu en kp : Nat) (hs : Int64) (cf : Nat → Int64) (sf : Nat → Int64) (hn : n ≤ 16) (b mny : Nat) (hb0 : b < 2 ^ 17) (co sh : Nat → Nat → Nat) (hcs : ∀ i, 1 ≤ i → i ≤ n → tb b i = 1 → (cf (17 * i) = lN (co i 0) ∧ co i 0 < 1073741789) ∧ ∀ k, 1 ≤ k → k ≤ n → sf (17 * i + k) = lN (sh i k) ∧ sh i k < 1073741789) (hM : w0 77 = .inr (4, [.int cd, .int (nI n), .int (nI t), .int (nI cl), .ref (ad 78), .ref (ad 79), .ref (ad 80), .ref (ad 81), .ref (ad 82), .ref (ad 83), .int (nI qu), .ref (ad 84), .ref (ad 85), .ref (ad 86), .int (nI en), .int (nI kp), .ref (ad 87), .long hs])) (hCf : w0 80 = .inl (cJ, 289, .inr (.inl cf))) (hSf : w0 82 = .inl (cJ, 289, .inr (.inl sf)))
    (kx : ∀ (kyf : Nat → Int64) (swf : Nat → Int64) (w : Nat → va_E) (ls : Array Slot) (H : Heap) (locs : List Loc), (∀ z, z ≠ 84 → z ≠ 85 → w z = w0 z) → w 84 = .inl (cJ, 17, .inr (.inl kyf)) → w 85 = .inl (cJ, 17, .inr (.inl swf)) → (∀ k, k < n + 1 → kyf k = lN (ksF b co sh n k) ∧ swf k = lN (4 ^ ksF b co sh n k % 2147483579)) → WW D vwCl (tyL cI cJ cZ cD) A H0 ad 89 w s H locs → lv_has ls 9 [(4, .int (nI mny))] → W p l e ({ frames := 2, cells := 0, slots := 0, locals := 72 }) s m args below meth c H locs 0 0 Q (F0 m 239 ls [])) :
    ∀ (j q : Nat) (kyf : Nat → Int64) (swf : Nat → Int64) (w : Nat → va_E) (ls : Array Slot) (H : Heap) (locs : List Loc), q + j = n + 1 → (∀ z, z ≠ 84 → z ≠ 85 → w z = w0 z) → w 84 = .inl (cJ, 17, .inr (.inl kyf)) → w 85 = .inl (cJ, 17, .inr (.inl swf)) → (∀ k, k < q → kyf k = lN (ksF b co sh n k) ∧ swf k = lN (4 ^ ksF b co sh n k % 2147483579)) → WW D vwCl (tyL cI cJ cZ cD) A H0 ad 89 w s H locs → lv_has ls 9 [(0, .ref (ad 77)), (3, .int (nI b)), (4, .int (nI mny)), (5, .int (nI q))] → W p l e ({ frames := 2, cells := 0, slots := 0, locals := 72 }) s m args below meth c H locs 0 0 Q (F0 m 118 ls []) := by
  obtain ⟨hx, hb, hml, hown, hts⟩ := id hC
  intro j
  induction j with
  | zero =>
    intro q kyf swf w ls H locs hq hfr hKy hSw hz hw hl
    obtain rfl : n + 1 = q := by omega
    have hl : lv_has ls 9 [(0, .ref (ad 77)), (3, .int (nI b)), (4, .int (nI mny)), (5, .int (nI (n + 1)))] := hl
    have hM : w 77 = .inr (4, [.int cd, .int (nI n), .int (nI t), .int (nI cl), .ref (ad 78), .ref (ad 79), .ref (ad 80), .ref (ad 81), .ref (ad 82), .ref (ad 83), .int (nI qu), .ref (ad 84), .ref (ad 85), .ref (ad 86), .int (nI en), .int (nI kp), .ref (ad 87), .long hs]) := (hfr 77 (by decide) (by decide)).trans hM
    have hCf : w 80 = .inl (cJ, 289, .inr (.inl cf)) := (hfr 80 (by decide) (by decide)).trans hCf
    have hSf : w 82 = .inl (cJ, 289, .inr (.inl sf)) := (hfr 82 (by decide) (by decide)).trans hSf
    refine lv_iload hx hb dX5_close_118 (lv_at hl 3 rfl) ?_
    refine lv_aload_n hx hb dX5_close_120 rfl (lv_at hl 0 rfl) ?_
    refine gf_X5_59 hx hb hts hown hw (by decide) hM rfl dX5_close_121 ?_
    refine lv_icmp_gt (tgt := 239) hx hb dX5_close_124 (by decide) (fun hc => ?_) (fun hc => absurd (nI_lt (by omega) (by omega)) hc)
    exact kx kyf swf w ls H locs hfr hKy hSw hz hw (lv_sub hl [2] rfl)
  | succ j ih =>
    intro q kyf swf w ls H locs hq hfr hKy hSw hz hw hl
    have hM : w 77 = .inr (4, [.int cd, .int (nI n), .int (nI t), .int (nI cl), .ref (ad 78), .ref (ad 79), .ref (ad 80), .ref (ad 81), .ref (ad 82), .ref (ad 83), .int (nI qu), .ref (ad 84), .ref (ad 85), .ref (ad 86), .int (nI en), .int (nI kp), .ref (ad 87), .long hs]) := (hfr 77 (by decide) (by decide)).trans hM
    have hCf : w 80 = .inl (cJ, 289, .inr (.inl cf)) := (hfr 80 (by decide) (by decide)).trans hCf
    have hSf : w 82 = .inl (cJ, 289, .inr (.inl sf)) := (hfr 82 (by decide) (by decide)).trans hSf
    refine lv_iload hx hb dX5_close_118 (lv_at hl 3 rfl) ?_
    refine lv_aload_n hx hb dX5_close_120 rfl (lv_at hl 0 rfl) ?_
    refine gf_X5_59 hx hb hts hown hw (by decide) hM rfl dX5_close_121 ?_
    refine lv_icmp_gt (tgt := 239) hx hb dX5_close_124 (by decide) (fun hc => absurd hc (nI_nlt (by omega) (by omega))) (fun hc => ?_)
    refine lv_lconst (v := lN 0) hx hb dX5_close_127 (by decide) ?_
    refine lv_lstore (lv' := [(6, .long (lN 0)), (0, .ref (ad 77)), (3, .int (nI b)), (4, .int (nI mny)), (5, .int (nI q))]) hx hb dX5_close_128 hl (by decide) rfl (fun ls hl => ?_)
    refine lv_iconst (v := nI 1) hx hb dX5_close_130 (by decide) ?_
    refine lv_istore (lv' := [(8, .int (nI 1)), (6, .long (lN 0)), (0, .ref (ad 77)), (3, .int (nI b)), (4, .int (nI mny)), (5, .int (nI q))]) hx hb dX5_close_131 hl (by decide) rfl (fun ls hl => ?_)
    have hkl := ksF_lt b co sh n q
    refine k5_close_sum hC hA cd n t cl qu en kp hs cf sf hn b mny q hb0 (by omega) (fun i => if q = 0 then co i 0 else sh i q) (fun i g1 g2 g3 => ?_) hM hCf hSf (fun ls H locs hw hl => ?_) n 0 ls H locs (by omega) hw (lv_sub hl [2, 3, 4, 5, 1, 0] rfl)
    · obtain ⟨c1, c2⟩ := hcs i g1 g2 g3
      by_cases hq0 : q = 0
      · rw [if_pos hq0]; exact ⟨fun _ => c1.1, fun h => absurd hq0 h, c1.2⟩
      · rw [if_neg hq0]; exact ⟨fun h => absurd h hq0, fun _ => (c2 q (by omega) (by omega)).1, (c2 q (by omega) (by omega)).2⟩
    · skip
      have hl : lv_has ls 9 [(0, .ref (ad 77)), (3, .int (nI b)), (4, .int (nI mny)), (5, .int (nI q)), (6, .long (lN (ssm b (fun i _ => if q = 0 then co i 0 else sh i q) 0 n)))] := hl
      have hsl := ssm_le (qu := b) (n := n) (k := 0) (sh := fun i _ => if q = 0 then co i 0 else sh i q) (fun i g1 g2 g3 => by obtain ⟨c1, c2⟩ := hcs i g1 g2 g3; by_cases hq0 : q = 0; (rw [if_pos hq0]; exact c1.2); (rw [if_neg hq0]; exact (c2 q (by omega) (by omega)).2)) n (Nat.le_refl _)
      refine lv_aload_n hx hb dX5_close_197 rfl (lv_at hl 0 rfl) ?_
      refine gf_X5_29 hx hb hts hown hw (by decide) hM rfl dX5_close_198 ?_
      refine lv_iload hx hb dX5_close_201 (lv_at hl 3 rfl) ?_
      refine lv_lload hx hb dX5_close_203 (lv_at hl 4 rfl) ?_
      refine lv_ldc2 hx hb hown (hts _ ct_X5_62) dX5_close_205 ?_
      refine lv_lrem hx hb dX5_close_208 (by decide) ?_
      rw [pk_lRem (by omega) (by decide) (by decide)]
      rw [ksF_F]
      refine x_last hx hb hw (by decide) 1 hKy rfl (j := q) (by omega) (by decide) dX5_close_209 (fun w_1 H locs ew_2 hw => ?_)
      have hc_3 : w_1 77 = .inr (4, [.int cd, .int (nI n), .int (nI t), .int (nI cl), .ref (ad 78), .ref (ad 79), .ref (ad 80), .ref (ad 81), .ref (ad 82), .ref (ad 83), .int (nI qu), .ref (ad 84), .ref (ad 85), .ref (ad 86), .int (nI en), .int (nI kp), .ref (ad 87), .long hs]) := by rw [ew_2]; exact (va_up_ne _ _ (by omega)).trans hM
      have hc_4 : w_1 80 = .inl (cJ, 289, .inr (.inl cf)) := by rw [ew_2]; exact (va_up_ne _ _ (by omega)).trans hCf
      have hc_5 : w_1 82 = .inl (cJ, 289, .inr (.inl sf)) := by rw [ew_2]; exact (va_up_ne _ _ (by omega)).trans hSf
      have hc_6 : w_1 84 = .inl (cJ, 17, .inr (.inl (vp_updL kyf q (lN (ksF b co sh n q))))) := by rw [ew_2]; exact va_up_self _ _ _
      have hc_7 : w_1 85 = .inl (cJ, 17, .inr (.inl swf)) := by rw [ew_2]; exact (va_up_ne _ _ (by omega)).trans hSw
      refine lv_aload_n hx hb dX5_close_210 rfl (lv_at hl 0 rfl) ?_
      refine gf_X5_32 hx hb hts hown hw (by decide) hc_3 rfl dX5_close_211 ?_
      refine lv_iload hx hb dX5_close_214 (lv_at hl 3 rfl) ?_
      refine lv_ldc2 hx hb hown (hts _ ct_X5_91) dX5_close_216 ?_
      refine lv_aload_n hx hb dX5_close_219 rfl (lv_at hl 0 rfl) ?_
      refine gf_X5_29 hx hb hts hown hw (by decide) hc_3 rfl dX5_close_220 ?_
      refine lv_iload hx hb dX5_close_223 (lv_at hl 3 rfl) ?_
      refine x_lald hx hb hw (by decide) 1 hc_6 rfl (j := q) (by omega) (by decide) (uL_s _ _ _) dX5_close_225 ?_
      refine lv_ldc2 hx hb hown (hts _ ct_X5_93) dX5_close_226 ?_
      refine x_callS (As := [.long (lN 4), .long (lN (ksF b co sh n q)), .long (lN 2147483579)]) (rest := [.int (nI q), .ref (ad 85)]) hC sf_X5_95 (k5_power l 4 (ksF b co sh n q) 2147483579 (by decide) (by omega) (by decide) (by decide)) ⟨rfl, rfl, Nat.le_of_ble_eq_true rfl, Nat.le_of_ble_eq_true rfl⟩ hl.1 (Nat.le_of_ble_eq_true rfl) dX5_close_229 ⟨Nat.zero_le _, Nat.zero_le _⟩ rfl ?_
      refine x_last hx hb hw (by decide) 1 hc_7 rfl (j := q) (by omega) (by decide) dX5_close_232 (fun w_8 H locs ew_9 hw => ?_)
      have hc_10 : w_8 77 = .inr (4, [.int cd, .int (nI n), .int (nI t), .int (nI cl), .ref (ad 78), .ref (ad 79), .ref (ad 80), .ref (ad 81), .ref (ad 82), .ref (ad 83), .int (nI qu), .ref (ad 84), .ref (ad 85), .ref (ad 86), .int (nI en), .int (nI kp), .ref (ad 87), .long hs]) := by rw [ew_9]; exact (va_up_ne _ _ (by omega)).trans hc_3
      have hc_11 : w_8 80 = .inl (cJ, 289, .inr (.inl cf)) := by rw [ew_9]; exact (va_up_ne _ _ (by omega)).trans hc_4
      have hc_12 : w_8 82 = .inl (cJ, 289, .inr (.inl sf)) := by rw [ew_9]; exact (va_up_ne _ _ (by omega)).trans hc_5
      have hc_13 : w_8 84 = .inl (cJ, 17, .inr (.inl (vp_updL kyf q (lN (ksF b co sh n q))))) := by rw [ew_9]; exact (va_up_ne _ _ (by omega)).trans hc_6
      have hc_14 : w_8 85 = .inl (cJ, 17, .inr (.inl (vp_updL swf q (lN (4 ^ ksF b co sh n q % 2147483579))))) := by rw [ew_9]; exact va_up_self _ _ _
      refine lv_iinc (v := nI (q + 1)) (lv' := [(5, .int (nI (q + 1))), (0, .ref (ad 77)), (3, .int (nI b)), (4, .int (nI mny)), (6, .long (lN (ssm b (fun i _ => if q = 0 then co i 0 else sh i q) 0 n)))]) hx hb dX5_close_233 hl (k := 3) rfl (nI_1 q) (by decide) rfl (fun ls hl => ?_)
      refine lv_goto (tgt := 118) hx hb dX5_close_236 (by decide) ?_
      have hf2 : ∀ z, z ≠ 84 → z ≠ 85 → w_8 z = w z := fun z hhf20 hhf21 => by rw [ew_9, va_up_ne _ _ hhf21, ew_2, va_up_ne _ _ hhf20]
      refine ih (q + 1) _ _ _ ls H locs (by omega) (fun z h1 h2 => (hf2 z h1 h2).trans (hfr z h1 h2)) hc_13 hc_14 (fun k9 hk9 => ?_) hw (lv_sub hl [1, 2, 3, 0] rfl)
      by_cases hkk : k9 = q
      · subst hkk; exact ⟨uL_s _ _ _, uL_s _ _ _⟩
      · rw [uL_n _ _ hkk, uL_n _ _ hkk]; exact hz k9 (by omega)
set_option maxHeartbeats 4000000 in
set_option maxRecDepth 100000 in
theorem m_close (l : Launch) {D : va_G} {cI cJ cZ cD : ClassId} {ad : Nat → Nat} {w : Nat → va_E} {sz : Nat} (n t cl qu en kp : Nat) (dl ou cp ks pt : Nat → Nat) (co sh : Nat → Nat → Nat) (vs : Nat → Int64) (cd : Int32) (hok : OkS n t cl qu en kp dl ou cp ks pt co sh) (hRM : RM ad cJ cZ w cd n t cl qu en kp dl ou cp ks pt co sh vs) (z : Int64) (hcl0 : cl = 0) (hq0 : qf dl ou cp n ≠ 0) (ht1 : 1 ≤ t)  : MW l yX5_close (.code yX5_close cX5_close 9 (some .int)) ({ frames := 2, cells := 0, slots := 0, locals := 72 }) [.ref (ad 77), .long z] D (tyL cI cJ cZ cD) ad 89 w sz (some (.int (nI (pcN (qf dl ou cp n))))) (fun u => (∀ z, z < 77 ∨ 87 < z → u z = w z) ∧ RM ad cJ cZ u (nI 0) n t 1 (qf dl ou cp n) 0 0 dl ou cp (ksF (qf dl ou cp n) co sh n) pt co sh (vp_updL vs 0 z)) := by
  refine MW.of (by decide) (Nat.le_of_ble_eq_true rfl) ?_
  intro p e s m below meth c ls hC hr hlocks hl hw
  obtain ⟨hx, hb, hml, hown, hts⟩ := id hC
  have hA : ∀ q, s.heap.size ≤ q → xA ad 89 s.heap.size q := fun q h => Or.inr h
  have hl : lv_has ls 9 [(0, .ref (ad 77)), (1, .long z)] := hl
  obtain ⟨⟨hs, hM⟩, ⟨dz, oz, hDz, hOz, hdo⟩, ⟨cf, mf, sf, hCf, hMf, hSf, hcs⟩, ⟨xf, hXf, hxx⟩, ⟨kyf, swf, hKy, hSw, hks⟩, ⟨vlf, hVl, hvl⟩, ⟨plf, hPl, hpl⟩⟩ := id hRM
  obtain ⟨⟨hn, ht, hcl, hqu, hen, hkp⟩, hle, ⟨hqb, hkb, hcb⟩, hvals, hclv, hptl, ⟨hz1, hz2, hz3⟩⟩ := id hok
  refine lv_iconst (v := nI 0) hx hb dX5_close_0 (by decide) ?_
  refine lv_istore_n (lv' := [(3, .int (nI 0)), (0, .ref (ad 77)), (1, .long z)]) hx hb dX5_close_1 rfl hl (by decide) rfl (fun ls hl => ?_)
  refine lv_iconst (v := nI 0) hx hb dX5_close_2 (by decide) ?_
  refine lv_istore (lv' := [(4, .int (nI 0)), (3, .int (nI 0)), (0, .ref (ad 77)), (1, .long z)]) hx hb dX5_close_3 hl (by decide) rfl (fun ls hl => ?_)
  refine lv_iconst (v := nI 1) hx hb dX5_close_5 (by decide) ?_
  refine lv_istore (lv' := [(5, .int (nI 1)), (4, .int (nI 0)), (3, .int (nI 0)), (0, .ref (ad 77)), (1, .long z)]) hx hb dX5_close_6 hl (by decide) rfl (fun ls hl => ?_)
  refine k5_close1 hC hA cd n t cl qu en kp hs dz oz xf hn dl ou cp hdo hxx hle hcb z hM hDz hOz hXf (fun ls H locs hw hl => ?_) n 0 ls s.heap [] (by omega) hw (lv_sub hl [3, 4, 2, 1, 0] rfl)
  have hmp := mq_pc (dl := dl) (ou := ou) (cp := cp) hn
  have hqL := qf_lt dl ou cp n hn
  have hpl9 := pcN_le (qf dl ou cp n)
  have hpz := pc_z hqL
  refine lv_aload_n hx hb dX5_close_62 rfl (lv_at hl 0 rfl) ?_
  refine lv_aload_n hx hb dX5_close_63 rfl (lv_at hl 0 rfl) ?_
  refine gf_X5_71 hx hb hts hown hw (by decide) hM rfl dX5_close_64 ?_
  refine lv_if_ne (tgt := 75) hx hb dX5_close_67 (by decide) (fun q1 => absurd ((nI_z (by omega)).mpr hcl0) q1) (fun q1 => ?_)
  refine lv_iload hx hb dX5_close_70 (lv_at hl 3 rfl) ?_
  refine lv_if_ne (tgt := 79) hx hb dX5_close_72 (by decide) (fun q2 => ?_) (fun q2 => absurd q2 (nI_nz (by omega) (by omega)))
  refine lv_iconst (v := nI 0) hx hb dX5_close_79 (by decide) ?_
  refine x_callW1 (As := [.int (nI 0)]) (rest := []) hC vf_X5_64 hw hA (by decide) hM rfl rfl (k5_refuses0 l _ _ _ _ _ _ _ _ hM) ⟨rfl, rfl, Nat.le_of_ble_eq_true rfl, Nat.le_of_ble_eq_true rfl⟩ hl.1 (Nat.le_of_ble_eq_true rfl) dX5_close_80 ⟨Nat.zero_le _, Nat.zero_le _⟩ rfl (fun w_2 H locs hu_1 hw => ?_)
  have hc_3 : w_2 77 = .inr (4, [.int (nI 0), .int (nI n), .int (nI t), .int (nI cl), .ref (ad 78), .ref (ad 79), .ref (ad 80), .ref (ad 81), .ref (ad 82), .ref (ad 83), .int (nI qu), .ref (ad 84), .ref (ad 85), .ref (ad 86), .int (nI en), .int (nI kp), .ref (ad 87), .long hs]) := by rw [hu_1]; exact va_up_self _ _ _
  have hc_4 : w_2 78 = .inl (cZ, 17, .inl dz) := by rw [hu_1, va_up_ne _ _ (by decide)]; exact hDz
  have hc_5 : w_2 79 = .inl (cZ, 17, .inl oz) := by rw [hu_1, va_up_ne _ _ (by decide)]; exact hOz
  have hc_6 : w_2 80 = .inl (cJ, 289, .inr (.inl cf)) := by rw [hu_1, va_up_ne _ _ (by decide)]; exact hCf
  have hc_7 : w_2 81 = .inl (cJ, 289, .inr (.inl mf)) := by rw [hu_1, va_up_ne _ _ (by decide)]; exact hMf
  have hc_8 : w_2 82 = .inl (cJ, 289, .inr (.inl sf)) := by rw [hu_1, va_up_ne _ _ (by decide)]; exact hSf
  have hc_9 : w_2 83 = .inl (cZ, 289, .inl xf) := by rw [hu_1, va_up_ne _ _ (by decide)]; exact hXf
  have hc_10 : w_2 84 = .inl (cJ, 17, .inr (.inl kyf)) := by rw [hu_1, va_up_ne _ _ (by decide)]; exact hKy
  have hc_11 : w_2 85 = .inl (cJ, 17, .inr (.inl swf)) := by rw [hu_1, va_up_ne _ _ (by decide)]; exact hSw
  have hc_12 : w_2 86 = .inl (cJ, 301, .inr (.inl vlf)) := by rw [hu_1, va_up_ne _ _ (by decide)]; exact hVl
  have hc_13 : w_2 87 = .inl (cJ, 17, .inr (.inl plf)) := by rw [hu_1, va_up_ne _ _ (by decide)]; exact hPl
  refine lv_if_eq (tgt := 88) hx hb dX5_close_83 (by decide) (fun q_14 => ?_) (fun q_14 => absurd (by decide) q_14)
  refine lv_aload_n hx hb dX5_close_88 rfl (lv_at hl 0 rfl) ?_
  refine lv_iconst (v := nI 1) hx hb dX5_close_89 (by decide) ?_
  refine pf_X5_71 (v := .int (nI 1)) hx hb hts hown hw (by decide) hc_3 rfl (by decide) (Nat.le_of_ble_eq_true rfl) dX5_close_90 (fun w_15 H locs ew_16 hw => ?_)
  have hc_17 : w_15 77 = .inr (4, [.int (nI 0), .int (nI n), .int (nI t), .int (nI 1), .ref (ad 78), .ref (ad 79), .ref (ad 80), .ref (ad 81), .ref (ad 82), .ref (ad 83), .int (nI qu), .ref (ad 84), .ref (ad 85), .ref (ad 86), .int (nI en), .int (nI kp), .ref (ad 87), .long hs]) := by rw [ew_16]; exact va_up_self _ _ _
  have hc_18 : w_15 78 = .inl (cZ, 17, .inl dz) := by rw [ew_16]; exact (va_up_ne _ _ (by omega)).trans hc_4
  have hc_19 : w_15 79 = .inl (cZ, 17, .inl oz) := by rw [ew_16]; exact (va_up_ne _ _ (by omega)).trans hc_5
  have hc_20 : w_15 80 = .inl (cJ, 289, .inr (.inl cf)) := by rw [ew_16]; exact (va_up_ne _ _ (by omega)).trans hc_6
  have hc_21 : w_15 81 = .inl (cJ, 289, .inr (.inl mf)) := by rw [ew_16]; exact (va_up_ne _ _ (by omega)).trans hc_7
  have hc_22 : w_15 82 = .inl (cJ, 289, .inr (.inl sf)) := by rw [ew_16]; exact (va_up_ne _ _ (by omega)).trans hc_8
  have hc_23 : w_15 83 = .inl (cZ, 289, .inl xf) := by rw [ew_16]; exact (va_up_ne _ _ (by omega)).trans hc_9
  have hc_24 : w_15 84 = .inl (cJ, 17, .inr (.inl kyf)) := by rw [ew_16]; exact (va_up_ne _ _ (by omega)).trans hc_10
  have hc_25 : w_15 85 = .inl (cJ, 17, .inr (.inl swf)) := by rw [ew_16]; exact (va_up_ne _ _ (by omega)).trans hc_11
  have hc_26 : w_15 86 = .inl (cJ, 301, .inr (.inl vlf)) := by rw [ew_16]; exact (va_up_ne _ _ (by omega)).trans hc_12
  have hc_27 : w_15 87 = .inl (cJ, 17, .inr (.inl plf)) := by rw [ew_16]; exact (va_up_ne _ _ (by omega)).trans hc_13
  refine lv_aload_n hx hb dX5_close_93 rfl (lv_at hl 0 rfl) ?_
  refine lv_iload_n hx hb dX5_close_94 rfl (lv_at hl 2 rfl) ?_
  refine pf_X5_75 (v := .int (nI (qf dl ou cp n))) hx hb hts hown hw (by decide) hc_17 rfl rfl (Nat.le_of_ble_eq_true rfl) dX5_close_95 (fun w_28 H locs ew_29 hw => ?_)
  have hc_30 : w_28 77 = .inr (4, [.int (nI 0), .int (nI n), .int (nI t), .int (nI 1), .ref (ad 78), .ref (ad 79), .ref (ad 80), .ref (ad 81), .ref (ad 82), .ref (ad 83), .int (nI (qf dl ou cp n)), .ref (ad 84), .ref (ad 85), .ref (ad 86), .int (nI en), .int (nI kp), .ref (ad 87), .long hs]) := by rw [ew_29]; exact va_up_self _ _ _
  have hc_31 : w_28 78 = .inl (cZ, 17, .inl dz) := by rw [ew_29]; exact (va_up_ne _ _ (by omega)).trans hc_18
  have hc_32 : w_28 79 = .inl (cZ, 17, .inl oz) := by rw [ew_29]; exact (va_up_ne _ _ (by omega)).trans hc_19
  have hc_33 : w_28 80 = .inl (cJ, 289, .inr (.inl cf)) := by rw [ew_29]; exact (va_up_ne _ _ (by omega)).trans hc_20
  have hc_34 : w_28 81 = .inl (cJ, 289, .inr (.inl mf)) := by rw [ew_29]; exact (va_up_ne _ _ (by omega)).trans hc_21
  have hc_35 : w_28 82 = .inl (cJ, 289, .inr (.inl sf)) := by rw [ew_29]; exact (va_up_ne _ _ (by omega)).trans hc_22
  have hc_36 : w_28 83 = .inl (cZ, 289, .inl xf) := by rw [ew_29]; exact (va_up_ne _ _ (by omega)).trans hc_23
  have hc_37 : w_28 84 = .inl (cJ, 17, .inr (.inl kyf)) := by rw [ew_29]; exact (va_up_ne _ _ (by omega)).trans hc_24
  have hc_38 : w_28 85 = .inl (cJ, 17, .inr (.inl swf)) := by rw [ew_29]; exact (va_up_ne _ _ (by omega)).trans hc_25
  have hc_39 : w_28 86 = .inl (cJ, 301, .inr (.inl vlf)) := by rw [ew_29]; exact (va_up_ne _ _ (by omega)).trans hc_26
  have hc_40 : w_28 87 = .inl (cJ, 17, .inr (.inl plf)) := by rw [ew_29]; exact (va_up_ne _ _ (by omega)).trans hc_27
  refine lv_aload_n hx hb dX5_close_98 rfl (lv_at hl 0 rfl) ?_
  refine gf_X5_35 hx hb hts hown hw (by decide) hc_30 rfl dX5_close_99 ?_
  refine lv_iconst (v := nI 0) hx hb dX5_close_102 (by decide) ?_
  refine lv_lload_n hx hb dX5_close_103 rfl (lv_at hl 1 rfl) ?_
  refine x_last hx hb hw (by decide) 1 hc_39 rfl (j := 0) (by omega) (by decide) dX5_close_104 (fun w_41 H locs ew_42 hw => ?_)
  have hc_43 : w_41 77 = .inr (4, [.int (nI 0), .int (nI n), .int (nI t), .int (nI 1), .ref (ad 78), .ref (ad 79), .ref (ad 80), .ref (ad 81), .ref (ad 82), .ref (ad 83), .int (nI (qf dl ou cp n)), .ref (ad 84), .ref (ad 85), .ref (ad 86), .int (nI en), .int (nI kp), .ref (ad 87), .long hs]) := by rw [ew_42]; exact (va_up_ne _ _ (by omega)).trans hc_30
  have hc_44 : w_41 78 = .inl (cZ, 17, .inl dz) := by rw [ew_42]; exact (va_up_ne _ _ (by omega)).trans hc_31
  have hc_45 : w_41 79 = .inl (cZ, 17, .inl oz) := by rw [ew_42]; exact (va_up_ne _ _ (by omega)).trans hc_32
  have hc_46 : w_41 80 = .inl (cJ, 289, .inr (.inl cf)) := by rw [ew_42]; exact (va_up_ne _ _ (by omega)).trans hc_33
  have hc_47 : w_41 81 = .inl (cJ, 289, .inr (.inl mf)) := by rw [ew_42]; exact (va_up_ne _ _ (by omega)).trans hc_34
  have hc_48 : w_41 82 = .inl (cJ, 289, .inr (.inl sf)) := by rw [ew_42]; exact (va_up_ne _ _ (by omega)).trans hc_35
  have hc_49 : w_41 83 = .inl (cZ, 289, .inl xf) := by rw [ew_42]; exact (va_up_ne _ _ (by omega)).trans hc_36
  have hc_50 : w_41 84 = .inl (cJ, 17, .inr (.inl kyf)) := by rw [ew_42]; exact (va_up_ne _ _ (by omega)).trans hc_37
  have hc_51 : w_41 85 = .inl (cJ, 17, .inr (.inl swf)) := by rw [ew_42]; exact (va_up_ne _ _ (by omega)).trans hc_38
  have hc_52 : w_41 86 = .inl (cJ, 301, .inr (.inl (vp_updL vlf 0 z))) := by rw [ew_42]; exact va_up_self _ _ _
  have hc_53 : w_41 87 = .inl (cJ, 17, .inr (.inl plf)) := by rw [ew_42]; exact (va_up_ne _ _ (by omega)).trans hc_40
  refine lv_aload_n hx hb dX5_close_105 rfl (lv_at hl 0 rfl) ?_
  refine lv_iconst (v := nI 0) hx hb dX5_close_106 (by decide) ?_
  refine pf_X5_78 (v := .int (nI 0)) hx hb hts hown hw (by decide) hc_43 rfl rfl (Nat.le_of_ble_eq_true rfl) dX5_close_107 (fun w_54 H locs ew_55 hw => ?_)
  have hc_56 : w_54 77 = .inr (4, [.int (nI 0), .int (nI n), .int (nI t), .int (nI 1), .ref (ad 78), .ref (ad 79), .ref (ad 80), .ref (ad 81), .ref (ad 82), .ref (ad 83), .int (nI (qf dl ou cp n)), .ref (ad 84), .ref (ad 85), .ref (ad 86), .int (nI 0), .int (nI kp), .ref (ad 87), .long hs]) := by rw [ew_55]; exact va_up_self _ _ _
  have hc_57 : w_54 78 = .inl (cZ, 17, .inl dz) := by rw [ew_55]; exact (va_up_ne _ _ (by omega)).trans hc_44
  have hc_58 : w_54 79 = .inl (cZ, 17, .inl oz) := by rw [ew_55]; exact (va_up_ne _ _ (by omega)).trans hc_45
  have hc_59 : w_54 80 = .inl (cJ, 289, .inr (.inl cf)) := by rw [ew_55]; exact (va_up_ne _ _ (by omega)).trans hc_46
  have hc_60 : w_54 81 = .inl (cJ, 289, .inr (.inl mf)) := by rw [ew_55]; exact (va_up_ne _ _ (by omega)).trans hc_47
  have hc_61 : w_54 82 = .inl (cJ, 289, .inr (.inl sf)) := by rw [ew_55]; exact (va_up_ne _ _ (by omega)).trans hc_48
  have hc_62 : w_54 83 = .inl (cZ, 289, .inl xf) := by rw [ew_55]; exact (va_up_ne _ _ (by omega)).trans hc_49
  have hc_63 : w_54 84 = .inl (cJ, 17, .inr (.inl kyf)) := by rw [ew_55]; exact (va_up_ne _ _ (by omega)).trans hc_50
  have hc_64 : w_54 85 = .inl (cJ, 17, .inr (.inl swf)) := by rw [ew_55]; exact (va_up_ne _ _ (by omega)).trans hc_51
  have hc_65 : w_54 86 = .inl (cJ, 301, .inr (.inl (vp_updL vlf 0 z))) := by rw [ew_55]; exact (va_up_ne _ _ (by omega)).trans hc_52
  have hc_66 : w_54 87 = .inl (cJ, 17, .inr (.inl plf)) := by rw [ew_55]; exact (va_up_ne _ _ (by omega)).trans hc_53
  refine lv_aload_n hx hb dX5_close_110 rfl (lv_at hl 0 rfl) ?_
  refine lv_iconst (v := nI 0) hx hb dX5_close_111 (by decide) ?_
  refine pf_X5_81 (v := .int (nI 0)) hx hb hts hown hw (by decide) hc_56 rfl rfl (Nat.le_of_ble_eq_true rfl) dX5_close_112 (fun w_67 H locs ew_68 hw => ?_)
  have hc_69 : w_67 77 = .inr (4, [.int (nI 0), .int (nI n), .int (nI t), .int (nI 1), .ref (ad 78), .ref (ad 79), .ref (ad 80), .ref (ad 81), .ref (ad 82), .ref (ad 83), .int (nI (qf dl ou cp n)), .ref (ad 84), .ref (ad 85), .ref (ad 86), .int (nI 0), .int (nI 0), .ref (ad 87), .long hs]) := by rw [ew_68]; exact va_up_self _ _ _
  have hc_70 : w_67 78 = .inl (cZ, 17, .inl dz) := by rw [ew_68]; exact (va_up_ne _ _ (by omega)).trans hc_57
  have hc_71 : w_67 79 = .inl (cZ, 17, .inl oz) := by rw [ew_68]; exact (va_up_ne _ _ (by omega)).trans hc_58
  have hc_72 : w_67 80 = .inl (cJ, 289, .inr (.inl cf)) := by rw [ew_68]; exact (va_up_ne _ _ (by omega)).trans hc_59
  have hc_73 : w_67 81 = .inl (cJ, 289, .inr (.inl mf)) := by rw [ew_68]; exact (va_up_ne _ _ (by omega)).trans hc_60
  have hc_74 : w_67 82 = .inl (cJ, 289, .inr (.inl sf)) := by rw [ew_68]; exact (va_up_ne _ _ (by omega)).trans hc_61
  have hc_75 : w_67 83 = .inl (cZ, 289, .inl xf) := by rw [ew_68]; exact (va_up_ne _ _ (by omega)).trans hc_62
  have hc_76 : w_67 84 = .inl (cJ, 17, .inr (.inl kyf)) := by rw [ew_68]; exact (va_up_ne _ _ (by omega)).trans hc_63
  have hc_77 : w_67 85 = .inl (cJ, 17, .inr (.inl swf)) := by rw [ew_68]; exact (va_up_ne _ _ (by omega)).trans hc_64
  have hc_78 : w_67 86 = .inl (cJ, 301, .inr (.inl (vp_updL vlf 0 z))) := by rw [ew_68]; exact (va_up_ne _ _ (by omega)).trans hc_65
  have hc_79 : w_67 87 = .inl (cJ, 17, .inr (.inl plf)) := by rw [ew_68]; exact (va_up_ne _ _ (by omega)).trans hc_66
  refine lv_iconst (v := nI 0) hx hb dX5_close_115 (by decide) ?_
  refine lv_istore (lv' := [(5, .int (nI 0)), (0, .ref (ad 77)), (1, .long z), (3, .int (nI (qf dl ou cp n))), (4, .int (nI (cnt (mq dl ou cp) n)))]) hx hb dX5_close_116 hl (by decide) rfl (fun ls hl => ?_)
  have hf1 : ∀ z, z ≠ 77 → z ≠ 86 → w_67 z = w z := fun z hhf10 hhf11 => by rw [ew_68, va_up_ne _ _ hhf10, ew_55, va_up_ne _ _ hhf10, ew_42, va_up_ne _ _ hhf11, ew_29, va_up_ne _ _ hhf10, ew_16, va_up_ne _ _ hhf10, hu_1, va_up_ne _ _ hhf10]
  refine k5_close2 (w0 := w_67) hC hA (nI 0) n t 1 (qf dl ou cp n) 0 0 hs cf sf hn (qf dl ou cp n) (cnt (mq dl ou cp) n) hqL co sh (fun i h1 h2 h3 => ?_) hc_69 hc_72 hc_74 (fun kyf2 swf2 w2 ls H locs hfr2 hKy2 hSw2 hz2 hw hl => ?_) (n + 1) 0 kyf swf w_67 ls H locs (by omega) (fun _ _ _ => rfl) hc_76 hc_77 (fun k hk => absurd hk (by omega)) hw (lv_sub hl [1, 3, 4, 0] rfl)
  · have hd1 := (qf_dl i h3).2.1
    obtain ⟨c1, c2⟩ := hcs i h1 h2 hd1
    obtain ⟨v1, v2⟩ := hvals i h1 h2 hd1
    exact ⟨⟨(c1 0 (by omega)).1, v1 0 (by omega)⟩, fun k h4 h5 => ⟨c2 k h4 h5, v2 k h4 h5⟩⟩
  · skip
    refine lv_iload hx hb dX5_close_239 (lv_at hl 0 rfl) ?_
    rw [hmp]
    have hall : ∀ z, z ≠ 77 → z ≠ 84 → z ≠ 85 → z ≠ 86 → w2 z = w z := fun z h1 h2 h3 h4 => (hfr2 z h2 h3).trans (hf1 z h1 h4)
    refine x_wretI hx hb hr hlocks hw ⟨fun z hz => hall z (by omega) (by omega) (by omega) (by omega), ⟨hs, (hfr2 77 (by decide) (by decide)).trans hc_69⟩, RMd.of ⟨dz, oz, hDz, hOz, hdo⟩ (hall 78 (by decide) (by decide) (by decide) (by decide)) (hall 79 (by decide) (by decide) (by decide) (by decide)), RMc.of ⟨cf, mf, sf, hCf, hMf, hSf, hcs⟩ (hall 80 (by decide) (by decide) (by decide) (by decide)) (hall 81 (by decide) (by decide) (by decide) (by decide)) (hall 82 (by decide) (by decide) (by decide) (by decide)), RMx.of ⟨xf, hXf, hxx⟩ (hall 83 (by decide) (by decide) (by decide) (by decide)), ⟨kyf2, swf2, hKy2, hSw2, fun _ k hk => hz2 k (by omega)⟩, ⟨_, (hfr2 86 (by decide) (by decide)).trans hc_78, fun _ j hj => ?_⟩, ⟨plf, (hall 87 (by decide) (by decide) (by decide) (by decide)).trans hPl, fun k q => absurd q (by rw [tb_zero]; decide)⟩⟩ dX5_close_241
    obtain rfl : j = 0 := by omega
    rw [pk_uLs, pk_uLs]
set_option maxHeartbeats 4000000 in
set_option maxRecDepth 100000 in
theorem m_closeS (l : Launch) {D : va_G} {cI cJ cZ cD : ClassId} {ad : Nat → Nat} {w : Nat → va_E} {sz : Nat} (n t cl qu en kp : Nat) (dl ou cp ks pt : Nat → Nat) (co sh : Nat → Nat → Nat) (vs : Nat → Int64) (cd : Int32) (hok : OkS n t cl qu en kp dl ou cp ks pt co sh) (hRM : RM ad cJ cZ w cd n t cl qu en kp dl ou cp ks pt co sh vs) (z : Int64) (hbad : cl = 1 ∨ qf dl ou cp n = 0)  : MW l yX5_close (.code yX5_close cX5_close 9 (some .int)) ({ frames := 2, cells := 0, slots := 0, locals := 72 }) [.ref (ad 77), .long z] D (tyL cI cJ cZ cD) ad 89 w sz (some (.int (nI 0))) (fun u => (∀ z, z < 77 ∨ 87 < z → u z = w z) ∧ RM ad cJ cZ u (nI 1) n t cl qu en kp dl ou cp ks pt co sh vs) := by
  refine MW.of (by decide) (Nat.le_of_ble_eq_true rfl) ?_
  intro p e s m below meth c ls hC hr hlocks hl hw
  obtain ⟨hx, hb, hml, hown, hts⟩ := id hC
  have hA : ∀ q, s.heap.size ≤ q → xA ad 89 s.heap.size q := fun q h => Or.inr h
  have hl : lv_has ls 9 [(0, .ref (ad 77)), (1, .long z)] := hl
  obtain ⟨⟨hs, hM⟩, ⟨dz, oz, hDz, hOz, hdo⟩, ⟨cf, mf, sf, hCf, hMf, hSf, hcs⟩, ⟨xf, hXf, hxx⟩, ⟨kyf, swf, hKy, hSw, hks⟩, ⟨vlf, hVl, hvl⟩, ⟨plf, hPl, hpl⟩⟩ := id hRM
  obtain ⟨⟨hn, ht, hcl, hqu, hen, hkp⟩, hle, ⟨hqb, hkb, hcb⟩, hvals, hclv, hptl, ⟨hz1, hz2, hz3⟩⟩ := id hok
  refine lv_iconst (v := nI 0) hx hb dX5_close_0 (by decide) ?_
  refine lv_istore_n (lv' := [(3, .int (nI 0)), (0, .ref (ad 77)), (1, .long z)]) hx hb dX5_close_1 rfl hl (by decide) rfl (fun ls hl => ?_)
  refine lv_iconst (v := nI 0) hx hb dX5_close_2 (by decide) ?_
  refine lv_istore (lv' := [(4, .int (nI 0)), (3, .int (nI 0)), (0, .ref (ad 77)), (1, .long z)]) hx hb dX5_close_3 hl (by decide) rfl (fun ls hl => ?_)
  refine lv_iconst (v := nI 1) hx hb dX5_close_5 (by decide) ?_
  refine lv_istore (lv' := [(5, .int (nI 1)), (4, .int (nI 0)), (3, .int (nI 0)), (0, .ref (ad 77)), (1, .long z)]) hx hb dX5_close_6 hl (by decide) rfl (fun ls hl => ?_)
  refine k5_close1 hC hA cd n t cl qu en kp hs dz oz xf hn dl ou cp hdo hxx hle hcb z hM hDz hOz hXf (fun ls H locs hw hl => ?_) n 0 ls s.heap [] (by omega) hw (lv_sub hl [3, 4, 2, 1, 0] rfl)
  have hmp := mq_pc (dl := dl) (ou := ou) (cp := cp) hn
  have hqL := qf_lt dl ou cp n hn
  have hpl9 := pcN_le (qf dl ou cp n)
  have hpz := pc_z hqL
  refine lv_aload_n hx hb dX5_close_62 rfl (lv_at hl 0 rfl) ?_
  refine lv_aload_n hx hb dX5_close_63 rfl (lv_at hl 0 rfl) ?_
  refine gf_X5_71 hx hb hts hown hw (by decide) hM rfl dX5_close_64 ?_
  refine lv_if_ne (tgt := 75) hx hb dX5_close_67 (by decide) (fun q1 => ?_) (fun q1 => ?_)
  · rw [nI_z (by omega)] at q1
    refine lv_iconst (v := nI 1) hx hb dX5_close_75 (by decide) ?_
    refine lv_goto (tgt := 80) hx hb dX5_close_76 (by decide) ?_
    refine x_callW1 (As := [.int (nI 1)]) (rest := []) hC vf_X5_64 hw hA (by decide) hM rfl rfl (k5_refuses1 l _ _ _ _ _ _ _ _ hM) ⟨rfl, rfl, Nat.le_of_ble_eq_true rfl, Nat.le_of_ble_eq_true rfl⟩ hl.1 (Nat.le_of_ble_eq_true rfl) dX5_close_80 ⟨Nat.zero_le _, Nat.zero_le _⟩ rfl (fun w_2 H locs hu_1 hw => ?_)
    have hc_3 : w_2 77 = .inr (4, [.int (nI 1), .int (nI n), .int (nI t), .int (nI cl), .ref (ad 78), .ref (ad 79), .ref (ad 80), .ref (ad 81), .ref (ad 82), .ref (ad 83), .int (nI qu), .ref (ad 84), .ref (ad 85), .ref (ad 86), .int (nI en), .int (nI kp), .ref (ad 87), .long hs]) := by rw [hu_1]; exact va_up_self _ _ _
    have hc_4 : w_2 78 = .inl (cZ, 17, .inl dz) := by rw [hu_1, va_up_ne _ _ (by decide)]; exact hDz
    have hc_5 : w_2 79 = .inl (cZ, 17, .inl oz) := by rw [hu_1, va_up_ne _ _ (by decide)]; exact hOz
    have hc_6 : w_2 80 = .inl (cJ, 289, .inr (.inl cf)) := by rw [hu_1, va_up_ne _ _ (by decide)]; exact hCf
    have hc_7 : w_2 81 = .inl (cJ, 289, .inr (.inl mf)) := by rw [hu_1, va_up_ne _ _ (by decide)]; exact hMf
    have hc_8 : w_2 82 = .inl (cJ, 289, .inr (.inl sf)) := by rw [hu_1, va_up_ne _ _ (by decide)]; exact hSf
    have hc_9 : w_2 83 = .inl (cZ, 289, .inl xf) := by rw [hu_1, va_up_ne _ _ (by decide)]; exact hXf
    have hc_10 : w_2 84 = .inl (cJ, 17, .inr (.inl kyf)) := by rw [hu_1, va_up_ne _ _ (by decide)]; exact hKy
    have hc_11 : w_2 85 = .inl (cJ, 17, .inr (.inl swf)) := by rw [hu_1, va_up_ne _ _ (by decide)]; exact hSw
    have hc_12 : w_2 86 = .inl (cJ, 301, .inr (.inl vlf)) := by rw [hu_1, va_up_ne _ _ (by decide)]; exact hVl
    have hc_13 : w_2 87 = .inl (cJ, 17, .inr (.inl plf)) := by rw [hu_1, va_up_ne _ _ (by decide)]; exact hPl
    refine lv_if_eq (tgt := 88) hx hb dX5_close_83 (by decide) (fun q_14 => absurd q_14 (by decide)) (fun q_14 => ?_)
    refine lv_iconst (v := nI 0) hx hb dX5_close_86 (by decide) ?_
    have hfr : ∀ z, z ≠ 77 → w_2 z = w z := fun z hhfr0 => by rw [hu_1, va_up_ne _ _ hhfr0]
    exact x_wretI hx hb hr hlocks hw ⟨fun z hz => hfr z (by omega), RM.set77 hRM hfr hc_3⟩ dX5_close_87
  · rw [nI_z (by omega)] at q1
    refine lv_iload hx hb dX5_close_70 (lv_at hl 3 rfl) ?_
    refine lv_if_ne (tgt := 79) hx hb dX5_close_72 (by decide) (fun q2 => absurd ((nI_z (by omega)).mpr (by omega)) q2) (fun q2 => ?_)
    refine lv_iconst (v := nI 1) hx hb dX5_close_75 (by decide) ?_
    refine lv_goto (tgt := 80) hx hb dX5_close_76 (by decide) ?_
    refine x_callW1 (As := [.int (nI 1)]) (rest := []) hC vf_X5_64 hw hA (by decide) hM rfl rfl (k5_refuses1 l _ _ _ _ _ _ _ _ hM) ⟨rfl, rfl, Nat.le_of_ble_eq_true rfl, Nat.le_of_ble_eq_true rfl⟩ hl.1 (Nat.le_of_ble_eq_true rfl) dX5_close_80 ⟨Nat.zero_le _, Nat.zero_le _⟩ rfl (fun w_16 H locs hu_15 hw => ?_)
    have hc_17 : w_16 77 = .inr (4, [.int (nI 1), .int (nI n), .int (nI t), .int (nI cl), .ref (ad 78), .ref (ad 79), .ref (ad 80), .ref (ad 81), .ref (ad 82), .ref (ad 83), .int (nI qu), .ref (ad 84), .ref (ad 85), .ref (ad 86), .int (nI en), .int (nI kp), .ref (ad 87), .long hs]) := by rw [hu_15]; exact va_up_self _ _ _
    have hc_18 : w_16 78 = .inl (cZ, 17, .inl dz) := by rw [hu_15, va_up_ne _ _ (by decide)]; exact hDz
    have hc_19 : w_16 79 = .inl (cZ, 17, .inl oz) := by rw [hu_15, va_up_ne _ _ (by decide)]; exact hOz
    have hc_20 : w_16 80 = .inl (cJ, 289, .inr (.inl cf)) := by rw [hu_15, va_up_ne _ _ (by decide)]; exact hCf
    have hc_21 : w_16 81 = .inl (cJ, 289, .inr (.inl mf)) := by rw [hu_15, va_up_ne _ _ (by decide)]; exact hMf
    have hc_22 : w_16 82 = .inl (cJ, 289, .inr (.inl sf)) := by rw [hu_15, va_up_ne _ _ (by decide)]; exact hSf
    have hc_23 : w_16 83 = .inl (cZ, 289, .inl xf) := by rw [hu_15, va_up_ne _ _ (by decide)]; exact hXf
    have hc_24 : w_16 84 = .inl (cJ, 17, .inr (.inl kyf)) := by rw [hu_15, va_up_ne _ _ (by decide)]; exact hKy
    have hc_25 : w_16 85 = .inl (cJ, 17, .inr (.inl swf)) := by rw [hu_15, va_up_ne _ _ (by decide)]; exact hSw
    have hc_26 : w_16 86 = .inl (cJ, 301, .inr (.inl vlf)) := by rw [hu_15, va_up_ne _ _ (by decide)]; exact hVl
    have hc_27 : w_16 87 = .inl (cJ, 17, .inr (.inl plf)) := by rw [hu_15, va_up_ne _ _ (by decide)]; exact hPl
    refine lv_if_eq (tgt := 88) hx hb dX5_close_83 (by decide) (fun q_28 => absurd q_28 (by decide)) (fun q_28 => ?_)
    refine lv_iconst (v := nI 0) hx hb dX5_close_86 (by decide) ?_
    have hfr : ∀ z, z ≠ 77 → w_16 z = w z := fun z hhfr0 => by rw [hu_15, va_up_ne _ _ hhfr0]
    exact x_wretI hx hb hr hlocks hw ⟨fun z hz => hfr z (by omega), RM.set77 hRM hfr hc_17⟩ dX5_close_87
set_option maxHeartbeats 4000000 in
set_option maxRecDepth 100000 in
theorem m_key0 (l : Launch) {D : va_G} {cI cJ cZ cD : ClassId} {ad : Nat → Nat} {w : Nat → va_E} {sz : Nat} (n t cl qu en kp : Nat) (dl ou cp ks pt : Nat → Nat) (co sh : Nat → Nat → Nat) (vs : Nat → Int64) (cd : Int32) (hok : OkS n t cl qu en kp dl ou cp ks pt co sh) (hRM : RM ad cJ cZ w cd n t cl qu en kp dl ou cp ks pt co sh vs) (hcl0 : cl = 1)  : MW l yX5_key (.code yX5_key cX5_key 4 (some .int)) ({ frames := 1, cells := 0, slots := 0, locals := 29 }) [.ref (ad 77), .int (nI 0), .int (nI 1)] D (tyL cI cJ cZ cD) ad 89 w sz (some (.int (nI (4 ^ ks 0 % 2147483579)))) (fun u => (∀ z, z < 77 ∨ 87 < z → u z = w z) ∧ RM ad cJ cZ u (nI 0) n t 1 qu en kp dl ou cp ks pt co sh vs) := by
  refine MW.of (by decide) (Nat.le_of_ble_eq_true rfl) ?_
  intro p e s m below meth c ls hC hr hlocks hl hw
  obtain ⟨hx, hb, hml, hown, hts⟩ := id hC
  have hA : ∀ q, s.heap.size ≤ q → xA ad 89 s.heap.size q := fun q h => Or.inr h
  have hl : lv_has ls 4 [(0, .ref (ad 77)), (1, .int (nI 0)), (2, .int (nI 1))] := hl
  obtain ⟨⟨hs, hM⟩, ⟨dz, oz, hDz, hOz, hdo⟩, ⟨cf, mf, sf, hCf, hMf, hSf, hcs⟩, ⟨xf, hXf, hxx⟩, ⟨kyf, swf, hKy, hSw, hks⟩, ⟨vlf, hVl, hvl⟩, ⟨plf, hPl, hpl⟩⟩ := id hRM
  obtain ⟨⟨hn, ht, hcl, hqu, hen, hkp⟩, hle, ⟨hqb, hkb, hcb⟩, hvals, hclv, hptl, ⟨hz1, hz2, hz3⟩⟩ := id hok
  subst hcl0
  refine lv_aload_n hx hb dX5_key_0 rfl (lv_at hl 0 rfl) ?_
  refine lv_iload_n hx hb dX5_key_1 rfl (lv_at hl 1 rfl) ?_
  refine x_callW1 (As := [.int (nI 0)]) (rest := []) hC vf_X5_84 hw hA (by decide) hM rfl rfl (k5_isNodeN l _ _ _ _ _ _ _ _ (nI 0) (fun q => absurd q.1 (by decide)) hM) ⟨rfl, rfl, Nat.le_of_ble_eq_true rfl, Nat.le_of_ble_eq_true rfl⟩ hl.1 (Nat.le_of_ble_eq_true rfl) dX5_key_2 ⟨Nat.zero_le _, Nat.zero_le _⟩ rfl (fun w_1 H locs hu hw => ?_)
  rw [hu] at hw
  refine lv_if_ne (tgt := 17) hx hb dX5_key_5 (by decide) (fun q_2 => absurd (by decide) q_2) (fun q_2 => ?_)
  refine lv_iload_n hx hb dX5_key_8 rfl (lv_at hl 1 rfl) ?_
  refine lv_if_ne (tgt := 30) hx hb dX5_key_9 (by decide) (fun q_3 => absurd (by decide) q_3) (fun q_3 => ?_)
  refine lv_iload_n hx hb dX5_key_12 rfl (lv_at hl 2 rfl) ?_
  refine lv_iconst (v := nI 1) hx hb dX5_key_13 (by decide) ?_
  refine lv_icmp_ne (tgt := 30) hx hb dX5_key_14 (by decide) (fun q_4 => absurd (by decide) q_4) (fun q_4 => ?_)
  refine lv_iload_n hx hb dX5_key_17 rfl (lv_at hl 2 rfl) ?_
  refine lv_if_lt (tgt := 30) hx hb dX5_key_18 (by decide) (fun q_5 => absurd q_5 (by decide)) (fun q_5 => ?_)
  refine lv_iload_n hx hb dX5_key_21 rfl (lv_at hl 2 rfl) ?_
  refine lv_iconst (v := nI 1) hx hb dX5_key_22 (by decide) ?_
  refine lv_icmp_gt (tgt := 30) hx hb dX5_key_23 (by decide) (fun q_6 => absurd q_6 (by decide)) (fun q_6 => ?_)
  refine lv_iconst (v := nI 1) hx hb dX5_key_26 (by decide) ?_
  refine lv_goto (tgt := 31) hx hb dX5_key_27 (by decide) ?_
  refine lv_istore_n (lv' := [(3, .int (nI 1)), (0, .ref (ad 77)), (1, .int (nI 0)), (2, .int (nI 1))]) hx hb dX5_key_31 rfl hl (by decide) rfl (fun ls hl => ?_)
  refine lv_aload_n hx hb dX5_key_32 rfl (lv_at hl 1 rfl) ?_
  refine lv_iload_n hx hb dX5_key_33 rfl (lv_at hl 0 rfl) ?_
  refine lv_if_ne (tgt := 41) hx hb dX5_key_34 (by decide) (fun q_7 => ?_) (fun q_7 => absurd q_7 (by decide))
  refine lv_aload_n hx hb dX5_key_41 rfl (lv_at hl 1 rfl) ?_
  refine gf_X5_71 hx hb hts hown hw (by decide) hM rfl dX5_key_42 ?_
  refine lv_if_ne (tgt := 52) hx hb dX5_key_45 (by decide) (fun q_8 => ?_) (fun q_8 => absurd q_8 (by decide))
  refine lv_iconst (v := nI 0) hx hb dX5_key_52 (by decide) ?_
  refine x_callW1 (As := [.int (nI 0)]) (rest := []) hC vf_X5_64 hw hA (by decide) hM rfl rfl (k5_refuses0 l _ _ _ _ _ _ _ _ hM) ⟨rfl, rfl, Nat.le_of_ble_eq_true rfl, Nat.le_of_ble_eq_true rfl⟩ hl.1 (Nat.le_of_ble_eq_true rfl) dX5_key_53 ⟨Nat.zero_le _, Nat.zero_le _⟩ rfl (fun w_10 H locs hu_9 hw => ?_)
  have hc_11 : w_10 77 = .inr (4, [.int (nI 0), .int (nI n), .int (nI t), .int (nI 1), .ref (ad 78), .ref (ad 79), .ref (ad 80), .ref (ad 81), .ref (ad 82), .ref (ad 83), .int (nI qu), .ref (ad 84), .ref (ad 85), .ref (ad 86), .int (nI en), .int (nI kp), .ref (ad 87), .long hs]) := by rw [hu_9]; exact va_up_self _ _ _
  have hc_12 : w_10 78 = .inl (cZ, 17, .inl dz) := by rw [hu_9, va_up_ne _ _ (by decide)]; exact hDz
  have hc_13 : w_10 79 = .inl (cZ, 17, .inl oz) := by rw [hu_9, va_up_ne _ _ (by decide)]; exact hOz
  have hc_14 : w_10 80 = .inl (cJ, 289, .inr (.inl cf)) := by rw [hu_9, va_up_ne _ _ (by decide)]; exact hCf
  have hc_15 : w_10 81 = .inl (cJ, 289, .inr (.inl mf)) := by rw [hu_9, va_up_ne _ _ (by decide)]; exact hMf
  have hc_16 : w_10 82 = .inl (cJ, 289, .inr (.inl sf)) := by rw [hu_9, va_up_ne _ _ (by decide)]; exact hSf
  have hc_17 : w_10 83 = .inl (cZ, 289, .inl xf) := by rw [hu_9, va_up_ne _ _ (by decide)]; exact hXf
  have hc_18 : w_10 84 = .inl (cJ, 17, .inr (.inl kyf)) := by rw [hu_9, va_up_ne _ _ (by decide)]; exact hKy
  have hc_19 : w_10 85 = .inl (cJ, 17, .inr (.inl swf)) := by rw [hu_9, va_up_ne _ _ (by decide)]; exact hSw
  have hc_20 : w_10 86 = .inl (cJ, 301, .inr (.inl vlf)) := by rw [hu_9, va_up_ne _ _ (by decide)]; exact hVl
  have hc_21 : w_10 87 = .inl (cJ, 17, .inr (.inl plf)) := by rw [hu_9, va_up_ne _ _ (by decide)]; exact hPl
  refine lv_if_eq (tgt := 61) hx hb dX5_key_56 (by decide) (fun q_22 => ?_) (fun q_22 => absurd (by decide) q_22)
  refine lv_iload_n hx hb dX5_key_61 rfl (lv_at hl 3 rfl) ?_
  refine lv_if_ne (tgt := 74) hx hb dX5_key_62 (by decide) (fun q_23 => ?_) (fun q_23 => absurd q_23 (by decide))
  refine lv_aload_n hx hb dX5_key_74 rfl (lv_at hl 1 rfl) ?_
  refine gf_X5_32 hx hb hts hown hw (by decide) hc_11 rfl dX5_key_75 ?_
  refine lv_iload_n hx hb dX5_key_78 rfl (lv_at hl 2 rfl) ?_
  refine x_lald hx hb hw (by decide) 1 hc_19 rfl (j := 0) (by omega) (by decide) (hks rfl 0 (by omega)).2 dX5_key_79 ?_
  refine lv_l2i hx hb dX5_key_80 (lN_i _) ?_
  have hfr : ∀ z, z ≠ 77 → w_10 z = w z := fun z hhfr0 => by rw [hu_9, va_up_ne _ _ hhfr0]
  exact x_wretI hx hb hr hlocks hw ⟨fun z hz => hfr z (by omega), RM.set77 hRM hfr hc_11⟩ dX5_key_81
set_option maxHeartbeats 4000000 in
set_option maxRecDepth 100000 in
theorem m_keyN0 (l : Launch) {D : va_G} {cI cJ cZ cD : ClassId} {ad : Nat → Nat} {w : Nat → va_E} {sz : Nat} (n t cl qu en kp : Nat) (dl ou cp ks pt : Nat → Nat) (co sh : Nat → Nat → Nat) (vs : Nat → Int64) (cd : Int32) (hok : OkS n t cl qu en kp dl ou cp ks pt co sh) (hRM : RM ad cJ cZ w cd n t cl qu en kp dl ou cp ks pt co sh vs) (k : Nat) (hk1 : 1 ≤ k) (hk2 : k ≤ n) (hcl0 : cl = 1)  : MW l yX5_key (.code yX5_key cX5_key 4 (some .int)) ({ frames := 1, cells := 0, slots := 0, locals := 29 }) [.ref (ad 77), .int (nI k), .int (nI 0)] D (tyL cI cJ cZ cD) ad 89 w sz (some (.int (nI (ks k)))) (fun u => (∀ z, z < 77 ∨ 87 < z → u z = w z) ∧ RM ad cJ cZ u (nI 0) n t 1 qu en kp dl ou cp ks pt co sh vs) := by
  refine MW.of (by decide) (Nat.le_of_ble_eq_true rfl) ?_
  intro p e s m below meth c ls hC hr hlocks hl hw
  obtain ⟨hx, hb, hml, hown, hts⟩ := id hC
  have hA : ∀ q, s.heap.size ≤ q → xA ad 89 s.heap.size q := fun q h => Or.inr h
  have hl : lv_has ls 4 [(0, .ref (ad 77)), (1, .int (nI k)), (2, .int (nI 0))] := hl
  obtain ⟨⟨hs, hM⟩, ⟨dz, oz, hDz, hOz, hdo⟩, ⟨cf, mf, sf, hCf, hMf, hSf, hcs⟩, ⟨xf, hXf, hxx⟩, ⟨kyf, swf, hKy, hSw, hks⟩, ⟨vlf, hVl, hvl⟩, ⟨plf, hPl, hpl⟩⟩ := id hRM
  obtain ⟨⟨hn, ht, hcl, hqu, hen, hkp⟩, hle, ⟨hqb, hkb, hcb⟩, hvals, hclv, hptl, ⟨hz1, hz2, hz3⟩⟩ := id hok
  subst hcl0
  refine lv_aload_n hx hb dX5_key_0 rfl (lv_at hl 0 rfl) ?_
  refine lv_iload_n hx hb dX5_key_1 rfl (lv_at hl 1 rfl) ?_
  refine x_callW1 (As := [.int (nI k)]) (rest := []) hC vf_X5_84 hw hA (by decide) hM rfl rfl (k5_isNode l _ _ _ _ _ _ _ _ hn k hk1 hk2 hM) ⟨rfl, rfl, Nat.le_of_ble_eq_true rfl, Nat.le_of_ble_eq_true rfl⟩ hl.1 (Nat.le_of_ble_eq_true rfl) dX5_key_2 ⟨Nat.zero_le _, Nat.zero_le _⟩ rfl (fun w_1 H locs hu hw => ?_)
  rw [hu] at hw
  refine lv_if_ne (tgt := 17) hx hb dX5_key_5 (by decide) (fun q_2 => ?_) (fun q_2 => absurd q_2 (by decide))
  refine lv_iload_n hx hb dX5_key_17 rfl (lv_at hl 2 rfl) ?_
  refine lv_if_lt (tgt := 30) hx hb dX5_key_18 (by decide) (fun q_3 => absurd q_3 (by decide)) (fun q_3 => ?_)
  refine lv_iload_n hx hb dX5_key_21 rfl (lv_at hl 2 rfl) ?_
  refine lv_iconst (v := nI 1) hx hb dX5_key_22 (by decide) ?_
  refine lv_icmp_gt (tgt := 30) hx hb dX5_key_23 (by decide) (fun q_4 => absurd q_4 (by decide)) (fun q_4 => ?_)
  refine lv_iconst (v := nI 1) hx hb dX5_key_26 (by decide) ?_
  refine lv_goto (tgt := 31) hx hb dX5_key_27 (by decide) ?_
  refine lv_istore_n (lv' := [(3, .int (nI 1)), (0, .ref (ad 77)), (1, .int (nI k)), (2, .int (nI 0))]) hx hb dX5_key_31 rfl hl (by decide) rfl (fun ls hl => ?_)
  refine lv_aload_n hx hb dX5_key_32 rfl (lv_at hl 1 rfl) ?_
  refine lv_iload_n hx hb dX5_key_33 rfl (lv_at hl 0 rfl) ?_
  refine lv_if_ne (tgt := 41) hx hb dX5_key_34 (by decide) (fun q_5 => ?_) (fun q_5 => absurd q_5 (by decide))
  refine lv_aload_n hx hb dX5_key_41 rfl (lv_at hl 1 rfl) ?_
  refine gf_X5_71 hx hb hts hown hw (by decide) hM rfl dX5_key_42 ?_
  refine lv_if_ne (tgt := 52) hx hb dX5_key_45 (by decide) (fun q_6 => ?_) (fun q_6 => absurd q_6 (by decide))
  refine lv_iconst (v := nI 0) hx hb dX5_key_52 (by decide) ?_
  refine x_callW1 (As := [.int (nI 0)]) (rest := []) hC vf_X5_64 hw hA (by decide) hM rfl rfl (k5_refuses0 l _ _ _ _ _ _ _ _ hM) ⟨rfl, rfl, Nat.le_of_ble_eq_true rfl, Nat.le_of_ble_eq_true rfl⟩ hl.1 (Nat.le_of_ble_eq_true rfl) dX5_key_53 ⟨Nat.zero_le _, Nat.zero_le _⟩ rfl (fun w_8 H locs hu_7 hw => ?_)
  have hc_9 : w_8 77 = .inr (4, [.int (nI 0), .int (nI n), .int (nI t), .int (nI 1), .ref (ad 78), .ref (ad 79), .ref (ad 80), .ref (ad 81), .ref (ad 82), .ref (ad 83), .int (nI qu), .ref (ad 84), .ref (ad 85), .ref (ad 86), .int (nI en), .int (nI kp), .ref (ad 87), .long hs]) := by rw [hu_7]; exact va_up_self _ _ _
  have hc_10 : w_8 78 = .inl (cZ, 17, .inl dz) := by rw [hu_7, va_up_ne _ _ (by decide)]; exact hDz
  have hc_11 : w_8 79 = .inl (cZ, 17, .inl oz) := by rw [hu_7, va_up_ne _ _ (by decide)]; exact hOz
  have hc_12 : w_8 80 = .inl (cJ, 289, .inr (.inl cf)) := by rw [hu_7, va_up_ne _ _ (by decide)]; exact hCf
  have hc_13 : w_8 81 = .inl (cJ, 289, .inr (.inl mf)) := by rw [hu_7, va_up_ne _ _ (by decide)]; exact hMf
  have hc_14 : w_8 82 = .inl (cJ, 289, .inr (.inl sf)) := by rw [hu_7, va_up_ne _ _ (by decide)]; exact hSf
  have hc_15 : w_8 83 = .inl (cZ, 289, .inl xf) := by rw [hu_7, va_up_ne _ _ (by decide)]; exact hXf
  have hc_16 : w_8 84 = .inl (cJ, 17, .inr (.inl kyf)) := by rw [hu_7, va_up_ne _ _ (by decide)]; exact hKy
  have hc_17 : w_8 85 = .inl (cJ, 17, .inr (.inl swf)) := by rw [hu_7, va_up_ne _ _ (by decide)]; exact hSw
  have hc_18 : w_8 86 = .inl (cJ, 301, .inr (.inl vlf)) := by rw [hu_7, va_up_ne _ _ (by decide)]; exact hVl
  have hc_19 : w_8 87 = .inl (cJ, 17, .inr (.inl plf)) := by rw [hu_7, va_up_ne _ _ (by decide)]; exact hPl
  refine lv_if_eq (tgt := 61) hx hb dX5_key_56 (by decide) (fun q_20 => ?_) (fun q_20 => absurd (by decide) q_20)
  refine lv_iload_n hx hb dX5_key_61 rfl (lv_at hl 3 rfl) ?_
  refine lv_if_ne (tgt := 74) hx hb dX5_key_62 (by decide) (fun q_21 => absurd (by decide) q_21) (fun q_21 => ?_)
  refine lv_aload_n hx hb dX5_key_65 rfl (lv_at hl 1 rfl) ?_
  refine gf_X5_29 hx hb hts hown hw (by decide) hc_9 rfl dX5_key_66 ?_
  refine lv_iload_n hx hb dX5_key_69 rfl (lv_at hl 2 rfl) ?_
  refine x_lald hx hb hw (by decide) 1 hc_16 rfl (j := k) (by omega) (by decide) (hks rfl k (by omega)).1 dX5_key_70 ?_
  refine lv_goto (tgt := 80) hx hb dX5_key_71 (by decide) ?_
  refine lv_l2i hx hb dX5_key_80 (lN_i _) ?_
  have hfr : ∀ z, z ≠ 77 → w_8 z = w z := fun z hhfr0 => by rw [hu_7, va_up_ne _ _ hhfr0]
  exact x_wretI hx hb hr hlocks hw ⟨fun z hz => hfr z (by omega), RM.set77 hRM hfr hc_9⟩ dX5_key_81
set_option maxHeartbeats 4000000 in
set_option maxRecDepth 100000 in
theorem m_keyN1 (l : Launch) {D : va_G} {cI cJ cZ cD : ClassId} {ad : Nat → Nat} {w : Nat → va_E} {sz : Nat} (n t cl qu en kp : Nat) (dl ou cp ks pt : Nat → Nat) (co sh : Nat → Nat → Nat) (vs : Nat → Int64) (cd : Int32) (hok : OkS n t cl qu en kp dl ou cp ks pt co sh) (hRM : RM ad cJ cZ w cd n t cl qu en kp dl ou cp ks pt co sh vs) (k : Nat) (hk1 : 1 ≤ k) (hk2 : k ≤ n) (hcl0 : cl = 1)  : MW l yX5_key (.code yX5_key cX5_key 4 (some .int)) ({ frames := 1, cells := 0, slots := 0, locals := 29 }) [.ref (ad 77), .int (nI k), .int (nI 1)] D (tyL cI cJ cZ cD) ad 89 w sz (some (.int (nI (4 ^ ks k % 2147483579)))) (fun u => (∀ z, z < 77 ∨ 87 < z → u z = w z) ∧ RM ad cJ cZ u (nI 0) n t 1 qu en kp dl ou cp ks pt co sh vs) := by
  refine MW.of (by decide) (Nat.le_of_ble_eq_true rfl) ?_
  intro p e s m below meth c ls hC hr hlocks hl hw
  obtain ⟨hx, hb, hml, hown, hts⟩ := id hC
  have hA : ∀ q, s.heap.size ≤ q → xA ad 89 s.heap.size q := fun q h => Or.inr h
  have hl : lv_has ls 4 [(0, .ref (ad 77)), (1, .int (nI k)), (2, .int (nI 1))] := hl
  obtain ⟨⟨hs, hM⟩, ⟨dz, oz, hDz, hOz, hdo⟩, ⟨cf, mf, sf, hCf, hMf, hSf, hcs⟩, ⟨xf, hXf, hxx⟩, ⟨kyf, swf, hKy, hSw, hks⟩, ⟨vlf, hVl, hvl⟩, ⟨plf, hPl, hpl⟩⟩ := id hRM
  obtain ⟨⟨hn, ht, hcl, hqu, hen, hkp⟩, hle, ⟨hqb, hkb, hcb⟩, hvals, hclv, hptl, ⟨hz1, hz2, hz3⟩⟩ := id hok
  subst hcl0
  refine lv_aload_n hx hb dX5_key_0 rfl (lv_at hl 0 rfl) ?_
  refine lv_iload_n hx hb dX5_key_1 rfl (lv_at hl 1 rfl) ?_
  refine x_callW1 (As := [.int (nI k)]) (rest := []) hC vf_X5_84 hw hA (by decide) hM rfl rfl (k5_isNode l _ _ _ _ _ _ _ _ hn k hk1 hk2 hM) ⟨rfl, rfl, Nat.le_of_ble_eq_true rfl, Nat.le_of_ble_eq_true rfl⟩ hl.1 (Nat.le_of_ble_eq_true rfl) dX5_key_2 ⟨Nat.zero_le _, Nat.zero_le _⟩ rfl (fun w_1 H locs hu hw => ?_)
  rw [hu] at hw
  refine lv_if_ne (tgt := 17) hx hb dX5_key_5 (by decide) (fun q_2 => ?_) (fun q_2 => absurd q_2 (by decide))
  refine lv_iload_n hx hb dX5_key_17 rfl (lv_at hl 2 rfl) ?_
  refine lv_if_lt (tgt := 30) hx hb dX5_key_18 (by decide) (fun q_3 => absurd q_3 (by decide)) (fun q_3 => ?_)
  refine lv_iload_n hx hb dX5_key_21 rfl (lv_at hl 2 rfl) ?_
  refine lv_iconst (v := nI 1) hx hb dX5_key_22 (by decide) ?_
  refine lv_icmp_gt (tgt := 30) hx hb dX5_key_23 (by decide) (fun q_4 => absurd q_4 (by decide)) (fun q_4 => ?_)
  refine lv_iconst (v := nI 1) hx hb dX5_key_26 (by decide) ?_
  refine lv_goto (tgt := 31) hx hb dX5_key_27 (by decide) ?_
  refine lv_istore_n (lv' := [(3, .int (nI 1)), (0, .ref (ad 77)), (1, .int (nI k)), (2, .int (nI 1))]) hx hb dX5_key_31 rfl hl (by decide) rfl (fun ls hl => ?_)
  refine lv_aload_n hx hb dX5_key_32 rfl (lv_at hl 1 rfl) ?_
  refine lv_iload_n hx hb dX5_key_33 rfl (lv_at hl 0 rfl) ?_
  refine lv_if_ne (tgt := 41) hx hb dX5_key_34 (by decide) (fun q_5 => ?_) (fun q_5 => absurd q_5 (by decide))
  refine lv_aload_n hx hb dX5_key_41 rfl (lv_at hl 1 rfl) ?_
  refine gf_X5_71 hx hb hts hown hw (by decide) hM rfl dX5_key_42 ?_
  refine lv_if_ne (tgt := 52) hx hb dX5_key_45 (by decide) (fun q_6 => ?_) (fun q_6 => absurd q_6 (by decide))
  refine lv_iconst (v := nI 0) hx hb dX5_key_52 (by decide) ?_
  refine x_callW1 (As := [.int (nI 0)]) (rest := []) hC vf_X5_64 hw hA (by decide) hM rfl rfl (k5_refuses0 l _ _ _ _ _ _ _ _ hM) ⟨rfl, rfl, Nat.le_of_ble_eq_true rfl, Nat.le_of_ble_eq_true rfl⟩ hl.1 (Nat.le_of_ble_eq_true rfl) dX5_key_53 ⟨Nat.zero_le _, Nat.zero_le _⟩ rfl (fun w_8 H locs hu_7 hw => ?_)
  have hc_9 : w_8 77 = .inr (4, [.int (nI 0), .int (nI n), .int (nI t), .int (nI 1), .ref (ad 78), .ref (ad 79), .ref (ad 80), .ref (ad 81), .ref (ad 82), .ref (ad 83), .int (nI qu), .ref (ad 84), .ref (ad 85), .ref (ad 86), .int (nI en), .int (nI kp), .ref (ad 87), .long hs]) := by rw [hu_7]; exact va_up_self _ _ _
  have hc_10 : w_8 78 = .inl (cZ, 17, .inl dz) := by rw [hu_7, va_up_ne _ _ (by decide)]; exact hDz
  have hc_11 : w_8 79 = .inl (cZ, 17, .inl oz) := by rw [hu_7, va_up_ne _ _ (by decide)]; exact hOz
  have hc_12 : w_8 80 = .inl (cJ, 289, .inr (.inl cf)) := by rw [hu_7, va_up_ne _ _ (by decide)]; exact hCf
  have hc_13 : w_8 81 = .inl (cJ, 289, .inr (.inl mf)) := by rw [hu_7, va_up_ne _ _ (by decide)]; exact hMf
  have hc_14 : w_8 82 = .inl (cJ, 289, .inr (.inl sf)) := by rw [hu_7, va_up_ne _ _ (by decide)]; exact hSf
  have hc_15 : w_8 83 = .inl (cZ, 289, .inl xf) := by rw [hu_7, va_up_ne _ _ (by decide)]; exact hXf
  have hc_16 : w_8 84 = .inl (cJ, 17, .inr (.inl kyf)) := by rw [hu_7, va_up_ne _ _ (by decide)]; exact hKy
  have hc_17 : w_8 85 = .inl (cJ, 17, .inr (.inl swf)) := by rw [hu_7, va_up_ne _ _ (by decide)]; exact hSw
  have hc_18 : w_8 86 = .inl (cJ, 301, .inr (.inl vlf)) := by rw [hu_7, va_up_ne _ _ (by decide)]; exact hVl
  have hc_19 : w_8 87 = .inl (cJ, 17, .inr (.inl plf)) := by rw [hu_7, va_up_ne _ _ (by decide)]; exact hPl
  refine lv_if_eq (tgt := 61) hx hb dX5_key_56 (by decide) (fun q_20 => ?_) (fun q_20 => absurd (by decide) q_20)
  refine lv_iload_n hx hb dX5_key_61 rfl (lv_at hl 3 rfl) ?_
  refine lv_if_ne (tgt := 74) hx hb dX5_key_62 (by decide) (fun q_21 => ?_) (fun q_21 => absurd q_21 (by decide))
  refine lv_aload_n hx hb dX5_key_74 rfl (lv_at hl 1 rfl) ?_
  refine gf_X5_32 hx hb hts hown hw (by decide) hc_9 rfl dX5_key_75 ?_
  refine lv_iload_n hx hb dX5_key_78 rfl (lv_at hl 2 rfl) ?_
  refine x_lald hx hb hw (by decide) 1 hc_17 rfl (j := k) (by omega) (by decide) (hks rfl k (by omega)).2 dX5_key_79 ?_
  refine lv_l2i hx hb dX5_key_80 (lN_i _) ?_
  have hfr : ∀ z, z ≠ 77 → w_8 z = w z := fun z hhfr0 => by rw [hu_7, va_up_ne _ _ hhfr0]
  exact x_wretI hx hb hr hlocks hw ⟨fun z hz => hfr z (by omega), RM.set77 hRM hfr hc_9⟩ dX5_key_81
set_option maxHeartbeats 4000000 in
set_option maxRecDepth 100000 in
theorem m_keyA (l : Launch) {D : va_G} {cI cJ cZ cD : ClassId} {ad : Nat → Nat} {w : Nat → va_E} {sz : Nat} (n t cl qu en kp : Nat) (dl ou cp ks pt : Nat → Nat) (co sh : Nat → Nat → Nat) (vs : Nat → Int64) (cd : Int32) (hok : OkS n t cl qu en kp dl ou cp ks pt co sh) (hRM : RM ad cJ cZ w cd n t cl qu en kp dl ou cp ks pt co sh vs) (x y : Int32) (hb1 : ¬ (x = nI 0 ∧ y = nI 1)) (hb2 : ¬ (isNd n x ∧ ¬ y < 0 ∧ y ≤ nI 1))  : MW l yX5_key (.code yX5_key cX5_key 4 (some .int)) ({ frames := 1, cells := 0, slots := 0, locals := 29 }) [.ref (ad 77), .int x, .int y] D (tyL cI cJ cZ cD) ad 89 w sz (some (.int (nI 0))) (fun u => (∀ z, z < 77 ∨ 87 < z → u z = w z) ∧ RM ad cJ cZ u (nI 1) n t cl qu en kp dl ou cp ks pt co sh vs) := by
  refine MW.of (by decide) (Nat.le_of_ble_eq_true rfl) ?_
  intro p e s m below meth c ls hC hr hlocks hl hw
  obtain ⟨hx, hb, hml, hown, hts⟩ := id hC
  have hA : ∀ q, s.heap.size ≤ q → xA ad 89 s.heap.size q := fun q h => Or.inr h
  have hl : lv_has ls 4 [(0, .ref (ad 77)), (1, .int x), (2, .int y)] := hl
  obtain ⟨⟨hs, hM⟩, ⟨dz, oz, hDz, hOz, hdo⟩, ⟨cf, mf, sf, hCf, hMf, hSf, hcs⟩, ⟨xf, hXf, hxx⟩, ⟨kyf, swf, hKy, hSw, hks⟩, ⟨vlf, hVl, hvl⟩, ⟨plf, hPl, hpl⟩⟩ := id hRM
  obtain ⟨⟨hn, ht, hcl, hqu, hen, hkp⟩, hle, ⟨hqb, hkb, hcb⟩, hvals, hclv, hptl, ⟨hz1, hz2, hz3⟩⟩ := id hok
  by_cases c1 : isNd n x
  · skip
    obtain ⟨k, hk1, hk2, rfl⟩ := isNd_of hn c1
    refine lv_aload_n hx hb dX5_key_0 rfl (lv_at hl 0 rfl) ?_
    refine lv_iload_n hx hb dX5_key_1 rfl (lv_at hl 1 rfl) ?_
    refine x_callW1 (As := [.int (nI k)]) (rest := []) hC vf_X5_84 hw hA (by decide) hM rfl rfl (k5_isNode l _ _ _ _ _ _ _ _ hn k hk1 hk2 hM) ⟨rfl, rfl, Nat.le_of_ble_eq_true rfl, Nat.le_of_ble_eq_true rfl⟩ hl.1 (Nat.le_of_ble_eq_true rfl) dX5_key_2 ⟨Nat.zero_le _, Nat.zero_le _⟩ rfl (fun w_1 H locs hu hw => ?_)
    rw [hu] at hw
    refine lv_if_ne (tgt := 17) hx hb dX5_key_5 (by decide) (fun q_2 => ?_) (fun q_2 => absurd q_2 (by decide))
    refine lv_iload_n hx hb dX5_key_17 rfl (lv_at hl 2 rfl) ?_
    refine lv_if_lt (tgt := 30) hx hb dX5_key_18 (by decide) (fun q1 => ?_) (fun q1 => ?_)
    · skip
      refine lv_iconst (v := nI 0) hx hb dX5_key_30 (by decide) ?_
      refine lv_istore_n (lv' := [(3, .int (nI 0)), (0, .ref (ad 77)), (1, .int (nI k)), (2, .int y)]) hx hb dX5_key_31 rfl hl (by decide) rfl (fun ls hl => ?_)
      refine lv_aload_n hx hb dX5_key_32 rfl (lv_at hl 1 rfl) ?_
      refine lv_iload_n hx hb dX5_key_33 rfl (lv_at hl 0 rfl) ?_
      refine lv_if_ne (tgt := 41) hx hb dX5_key_34 (by decide) (fun q_3 => absurd (by decide) q_3) (fun q_3 => ?_)
      refine lv_iconst (v := nI 1) hx hb dX5_key_37 (by decide) ?_
      refine lv_goto (tgt := 53) hx hb dX5_key_38 (by decide) ?_
      refine x_callW1 (As := [.int (nI 1)]) (rest := []) hC vf_X5_64 hw hA (by decide) hM rfl rfl (k5_refuses1 l _ _ _ _ _ _ _ _ hM) ⟨rfl, rfl, Nat.le_of_ble_eq_true rfl, Nat.le_of_ble_eq_true rfl⟩ hl.1 (Nat.le_of_ble_eq_true rfl) dX5_key_53 ⟨Nat.zero_le _, Nat.zero_le _⟩ rfl (fun w_5 H locs hu_4 hw => ?_)
      have hc_6 : w_5 77 = .inr (4, [.int (nI 1), .int (nI n), .int (nI t), .int (nI cl), .ref (ad 78), .ref (ad 79), .ref (ad 80), .ref (ad 81), .ref (ad 82), .ref (ad 83), .int (nI qu), .ref (ad 84), .ref (ad 85), .ref (ad 86), .int (nI en), .int (nI kp), .ref (ad 87), .long hs]) := by rw [hu_4]; exact va_up_self _ _ _
      have hc_7 : w_5 78 = .inl (cZ, 17, .inl dz) := by rw [hu_4, va_up_ne _ _ (by decide)]; exact hDz
      have hc_8 : w_5 79 = .inl (cZ, 17, .inl oz) := by rw [hu_4, va_up_ne _ _ (by decide)]; exact hOz
      have hc_9 : w_5 80 = .inl (cJ, 289, .inr (.inl cf)) := by rw [hu_4, va_up_ne _ _ (by decide)]; exact hCf
      have hc_10 : w_5 81 = .inl (cJ, 289, .inr (.inl mf)) := by rw [hu_4, va_up_ne _ _ (by decide)]; exact hMf
      have hc_11 : w_5 82 = .inl (cJ, 289, .inr (.inl sf)) := by rw [hu_4, va_up_ne _ _ (by decide)]; exact hSf
      have hc_12 : w_5 83 = .inl (cZ, 289, .inl xf) := by rw [hu_4, va_up_ne _ _ (by decide)]; exact hXf
      have hc_13 : w_5 84 = .inl (cJ, 17, .inr (.inl kyf)) := by rw [hu_4, va_up_ne _ _ (by decide)]; exact hKy
      have hc_14 : w_5 85 = .inl (cJ, 17, .inr (.inl swf)) := by rw [hu_4, va_up_ne _ _ (by decide)]; exact hSw
      have hc_15 : w_5 86 = .inl (cJ, 301, .inr (.inl vlf)) := by rw [hu_4, va_up_ne _ _ (by decide)]; exact hVl
      have hc_16 : w_5 87 = .inl (cJ, 17, .inr (.inl plf)) := by rw [hu_4, va_up_ne _ _ (by decide)]; exact hPl
      refine lv_if_eq (tgt := 61) hx hb dX5_key_56 (by decide) (fun q_17 => absurd q_17 (by decide)) (fun q_17 => ?_)
      refine lv_iconst (v := nI 0) hx hb dX5_key_59 (by decide) ?_
      have hfr : ∀ z, z ≠ 77 → w_5 z = w z := fun z hhfr0 => by rw [hu_4, va_up_ne _ _ hhfr0]
      exact x_wretI hx hb hr hlocks hw ⟨fun z hz => hfr z (by omega), RM.set77 hRM hfr hc_6⟩ dX5_key_60
    · skip
      refine lv_iload_n hx hb dX5_key_21 rfl (lv_at hl 2 rfl) ?_
      refine lv_iconst (v := nI 1) hx hb dX5_key_22 (by decide) ?_
      refine lv_icmp_gt (tgt := 30) hx hb dX5_key_23 (by decide) (fun q2 => ?_) (fun q2 => absurd (nlt_of (fun q => hb2 ⟨c1, q1, q⟩)) q2)
      refine lv_iconst (v := nI 0) hx hb dX5_key_30 (by decide) ?_
      refine lv_istore_n (lv' := [(3, .int (nI 0)), (0, .ref (ad 77)), (1, .int (nI k)), (2, .int y)]) hx hb dX5_key_31 rfl hl (by decide) rfl (fun ls hl => ?_)
      refine lv_aload_n hx hb dX5_key_32 rfl (lv_at hl 1 rfl) ?_
      refine lv_iload_n hx hb dX5_key_33 rfl (lv_at hl 0 rfl) ?_
      refine lv_if_ne (tgt := 41) hx hb dX5_key_34 (by decide) (fun q_18 => absurd (by decide) q_18) (fun q_18 => ?_)
      refine lv_iconst (v := nI 1) hx hb dX5_key_37 (by decide) ?_
      refine lv_goto (tgt := 53) hx hb dX5_key_38 (by decide) ?_
      refine x_callW1 (As := [.int (nI 1)]) (rest := []) hC vf_X5_64 hw hA (by decide) hM rfl rfl (k5_refuses1 l _ _ _ _ _ _ _ _ hM) ⟨rfl, rfl, Nat.le_of_ble_eq_true rfl, Nat.le_of_ble_eq_true rfl⟩ hl.1 (Nat.le_of_ble_eq_true rfl) dX5_key_53 ⟨Nat.zero_le _, Nat.zero_le _⟩ rfl (fun w_20 H locs hu_19 hw => ?_)
      have hc_21 : w_20 77 = .inr (4, [.int (nI 1), .int (nI n), .int (nI t), .int (nI cl), .ref (ad 78), .ref (ad 79), .ref (ad 80), .ref (ad 81), .ref (ad 82), .ref (ad 83), .int (nI qu), .ref (ad 84), .ref (ad 85), .ref (ad 86), .int (nI en), .int (nI kp), .ref (ad 87), .long hs]) := by rw [hu_19]; exact va_up_self _ _ _
      have hc_22 : w_20 78 = .inl (cZ, 17, .inl dz) := by rw [hu_19, va_up_ne _ _ (by decide)]; exact hDz
      have hc_23 : w_20 79 = .inl (cZ, 17, .inl oz) := by rw [hu_19, va_up_ne _ _ (by decide)]; exact hOz
      have hc_24 : w_20 80 = .inl (cJ, 289, .inr (.inl cf)) := by rw [hu_19, va_up_ne _ _ (by decide)]; exact hCf
      have hc_25 : w_20 81 = .inl (cJ, 289, .inr (.inl mf)) := by rw [hu_19, va_up_ne _ _ (by decide)]; exact hMf
      have hc_26 : w_20 82 = .inl (cJ, 289, .inr (.inl sf)) := by rw [hu_19, va_up_ne _ _ (by decide)]; exact hSf
      have hc_27 : w_20 83 = .inl (cZ, 289, .inl xf) := by rw [hu_19, va_up_ne _ _ (by decide)]; exact hXf
      have hc_28 : w_20 84 = .inl (cJ, 17, .inr (.inl kyf)) := by rw [hu_19, va_up_ne _ _ (by decide)]; exact hKy
      have hc_29 : w_20 85 = .inl (cJ, 17, .inr (.inl swf)) := by rw [hu_19, va_up_ne _ _ (by decide)]; exact hSw
      have hc_30 : w_20 86 = .inl (cJ, 301, .inr (.inl vlf)) := by rw [hu_19, va_up_ne _ _ (by decide)]; exact hVl
      have hc_31 : w_20 87 = .inl (cJ, 17, .inr (.inl plf)) := by rw [hu_19, va_up_ne _ _ (by decide)]; exact hPl
      refine lv_if_eq (tgt := 61) hx hb dX5_key_56 (by decide) (fun q_32 => absurd q_32 (by decide)) (fun q_32 => ?_)
      refine lv_iconst (v := nI 0) hx hb dX5_key_59 (by decide) ?_
      have hfr : ∀ z, z ≠ 77 → w_20 z = w z := fun z hhfr0 => by rw [hu_19, va_up_ne _ _ hhfr0]
      exact x_wretI hx hb hr hlocks hw ⟨fun z hz => hfr z (by omega), RM.set77 hRM hfr hc_21⟩ dX5_key_60
  · skip
    refine lv_aload_n hx hb dX5_key_0 rfl (lv_at hl 0 rfl) ?_
    refine lv_iload_n hx hb dX5_key_1 rfl (lv_at hl 1 rfl) ?_
    refine x_callW1 (As := [.int x]) (rest := []) hC vf_X5_84 hw hA (by decide) hM rfl rfl (k5_isNodeN l _ _ _ _ _ _ _ _ x c1 hM) ⟨rfl, rfl, Nat.le_of_ble_eq_true rfl, Nat.le_of_ble_eq_true rfl⟩ hl.1 (Nat.le_of_ble_eq_true rfl) dX5_key_2 ⟨Nat.zero_le _, Nat.zero_le _⟩ rfl (fun w_33 H locs hu hw => ?_)
    rw [hu] at hw
    refine lv_if_ne (tgt := 17) hx hb dX5_key_5 (by decide) (fun q_34 => absurd (by decide) q_34) (fun q_34 => ?_)
    refine lv_iload_n hx hb dX5_key_8 rfl (lv_at hl 1 rfl) ?_
    refine lv_if_ne (tgt := 30) hx hb dX5_key_9 (by decide) (fun q1 => ?_) (fun q1 => ?_)
    · skip
      refine lv_iconst (v := nI 0) hx hb dX5_key_30 (by decide) ?_
      refine lv_istore_n (lv' := [(3, .int (nI 0)), (0, .ref (ad 77)), (1, .int x), (2, .int y)]) hx hb dX5_key_31 rfl hl (by decide) rfl (fun ls hl => ?_)
      refine lv_aload_n hx hb dX5_key_32 rfl (lv_at hl 1 rfl) ?_
      refine lv_iload_n hx hb dX5_key_33 rfl (lv_at hl 0 rfl) ?_
      refine lv_if_ne (tgt := 41) hx hb dX5_key_34 (by decide) (fun q_35 => absurd (by decide) q_35) (fun q_35 => ?_)
      refine lv_iconst (v := nI 1) hx hb dX5_key_37 (by decide) ?_
      refine lv_goto (tgt := 53) hx hb dX5_key_38 (by decide) ?_
      refine x_callW1 (As := [.int (nI 1)]) (rest := []) hC vf_X5_64 hw hA (by decide) hM rfl rfl (k5_refuses1 l _ _ _ _ _ _ _ _ hM) ⟨rfl, rfl, Nat.le_of_ble_eq_true rfl, Nat.le_of_ble_eq_true rfl⟩ hl.1 (Nat.le_of_ble_eq_true rfl) dX5_key_53 ⟨Nat.zero_le _, Nat.zero_le _⟩ rfl (fun w_37 H locs hu_36 hw => ?_)
      have hc_38 : w_37 77 = .inr (4, [.int (nI 1), .int (nI n), .int (nI t), .int (nI cl), .ref (ad 78), .ref (ad 79), .ref (ad 80), .ref (ad 81), .ref (ad 82), .ref (ad 83), .int (nI qu), .ref (ad 84), .ref (ad 85), .ref (ad 86), .int (nI en), .int (nI kp), .ref (ad 87), .long hs]) := by rw [hu_36]; exact va_up_self _ _ _
      have hc_39 : w_37 78 = .inl (cZ, 17, .inl dz) := by rw [hu_36, va_up_ne _ _ (by decide)]; exact hDz
      have hc_40 : w_37 79 = .inl (cZ, 17, .inl oz) := by rw [hu_36, va_up_ne _ _ (by decide)]; exact hOz
      have hc_41 : w_37 80 = .inl (cJ, 289, .inr (.inl cf)) := by rw [hu_36, va_up_ne _ _ (by decide)]; exact hCf
      have hc_42 : w_37 81 = .inl (cJ, 289, .inr (.inl mf)) := by rw [hu_36, va_up_ne _ _ (by decide)]; exact hMf
      have hc_43 : w_37 82 = .inl (cJ, 289, .inr (.inl sf)) := by rw [hu_36, va_up_ne _ _ (by decide)]; exact hSf
      have hc_44 : w_37 83 = .inl (cZ, 289, .inl xf) := by rw [hu_36, va_up_ne _ _ (by decide)]; exact hXf
      have hc_45 : w_37 84 = .inl (cJ, 17, .inr (.inl kyf)) := by rw [hu_36, va_up_ne _ _ (by decide)]; exact hKy
      have hc_46 : w_37 85 = .inl (cJ, 17, .inr (.inl swf)) := by rw [hu_36, va_up_ne _ _ (by decide)]; exact hSw
      have hc_47 : w_37 86 = .inl (cJ, 301, .inr (.inl vlf)) := by rw [hu_36, va_up_ne _ _ (by decide)]; exact hVl
      have hc_48 : w_37 87 = .inl (cJ, 17, .inr (.inl plf)) := by rw [hu_36, va_up_ne _ _ (by decide)]; exact hPl
      refine lv_if_eq (tgt := 61) hx hb dX5_key_56 (by decide) (fun q_49 => absurd q_49 (by decide)) (fun q_49 => ?_)
      refine lv_iconst (v := nI 0) hx hb dX5_key_59 (by decide) ?_
      have hfr : ∀ z, z ≠ 77 → w_37 z = w z := fun z hhfr0 => by rw [hu_36, va_up_ne _ _ hhfr0]
      exact x_wretI hx hb hr hlocks hw ⟨fun z hz => hfr z (by omega), RM.set77 hRM hfr hc_38⟩ dX5_key_60
    · skip
      refine lv_iload_n hx hb dX5_key_12 rfl (lv_at hl 2 rfl) ?_
      refine lv_iconst (v := nI 1) hx hb dX5_key_13 (by decide) ?_
      refine lv_icmp_ne (tgt := 30) hx hb dX5_key_14 (by decide) (fun q2 => ?_) (fun q2 => absurd q2 (fun q => hb1 ⟨q1, q⟩))
      refine lv_iconst (v := nI 0) hx hb dX5_key_30 (by decide) ?_
      refine lv_istore_n (lv' := [(3, .int (nI 0)), (0, .ref (ad 77)), (1, .int x), (2, .int y)]) hx hb dX5_key_31 rfl hl (by decide) rfl (fun ls hl => ?_)
      refine lv_aload_n hx hb dX5_key_32 rfl (lv_at hl 1 rfl) ?_
      refine lv_iload_n hx hb dX5_key_33 rfl (lv_at hl 0 rfl) ?_
      refine lv_if_ne (tgt := 41) hx hb dX5_key_34 (by decide) (fun q_50 => absurd (by decide) q_50) (fun q_50 => ?_)
      refine lv_iconst (v := nI 1) hx hb dX5_key_37 (by decide) ?_
      refine lv_goto (tgt := 53) hx hb dX5_key_38 (by decide) ?_
      refine x_callW1 (As := [.int (nI 1)]) (rest := []) hC vf_X5_64 hw hA (by decide) hM rfl rfl (k5_refuses1 l _ _ _ _ _ _ _ _ hM) ⟨rfl, rfl, Nat.le_of_ble_eq_true rfl, Nat.le_of_ble_eq_true rfl⟩ hl.1 (Nat.le_of_ble_eq_true rfl) dX5_key_53 ⟨Nat.zero_le _, Nat.zero_le _⟩ rfl (fun w_52 H locs hu_51 hw => ?_)
      have hc_53 : w_52 77 = .inr (4, [.int (nI 1), .int (nI n), .int (nI t), .int (nI cl), .ref (ad 78), .ref (ad 79), .ref (ad 80), .ref (ad 81), .ref (ad 82), .ref (ad 83), .int (nI qu), .ref (ad 84), .ref (ad 85), .ref (ad 86), .int (nI en), .int (nI kp), .ref (ad 87), .long hs]) := by rw [hu_51]; exact va_up_self _ _ _
      have hc_54 : w_52 78 = .inl (cZ, 17, .inl dz) := by rw [hu_51, va_up_ne _ _ (by decide)]; exact hDz
      have hc_55 : w_52 79 = .inl (cZ, 17, .inl oz) := by rw [hu_51, va_up_ne _ _ (by decide)]; exact hOz
      have hc_56 : w_52 80 = .inl (cJ, 289, .inr (.inl cf)) := by rw [hu_51, va_up_ne _ _ (by decide)]; exact hCf
      have hc_57 : w_52 81 = .inl (cJ, 289, .inr (.inl mf)) := by rw [hu_51, va_up_ne _ _ (by decide)]; exact hMf
      have hc_58 : w_52 82 = .inl (cJ, 289, .inr (.inl sf)) := by rw [hu_51, va_up_ne _ _ (by decide)]; exact hSf
      have hc_59 : w_52 83 = .inl (cZ, 289, .inl xf) := by rw [hu_51, va_up_ne _ _ (by decide)]; exact hXf
      have hc_60 : w_52 84 = .inl (cJ, 17, .inr (.inl kyf)) := by rw [hu_51, va_up_ne _ _ (by decide)]; exact hKy
      have hc_61 : w_52 85 = .inl (cJ, 17, .inr (.inl swf)) := by rw [hu_51, va_up_ne _ _ (by decide)]; exact hSw
      have hc_62 : w_52 86 = .inl (cJ, 301, .inr (.inl vlf)) := by rw [hu_51, va_up_ne _ _ (by decide)]; exact hVl
      have hc_63 : w_52 87 = .inl (cJ, 17, .inr (.inl plf)) := by rw [hu_51, va_up_ne _ _ (by decide)]; exact hPl
      refine lv_if_eq (tgt := 61) hx hb dX5_key_56 (by decide) (fun q_64 => absurd q_64 (by decide)) (fun q_64 => ?_)
      refine lv_iconst (v := nI 0) hx hb dX5_key_59 (by decide) ?_
      have hfr : ∀ z, z ≠ 77 → w_52 z = w z := fun z hhfr0 => by rw [hu_51, va_up_ne _ _ hhfr0]
      exact x_wretI hx hb hr hlocks hw ⟨fun z hz => hfr z (by omega), RM.set77 hRM hfr hc_53⟩ dX5_key_60
set_option maxHeartbeats 4000000 in
set_option maxRecDepth 100000 in
theorem m_keyS0 (l : Launch) {D : va_G} {cI cJ cZ cD : ClassId} {ad : Nat → Nat} {w : Nat → va_E} {sz : Nat} (n t cl qu en kp : Nat) (dl ou cp ks pt : Nat → Nat) (co sh : Nat → Nat → Nat) (vs : Nat → Int64) (cd : Int32) (hok : OkS n t cl qu en kp dl ou cp ks pt co sh) (hRM : RM ad cJ cZ w cd n t cl qu en kp dl ou cp ks pt co sh vs) (hcl0 : cl = 0)  : MW l yX5_key (.code yX5_key cX5_key 4 (some .int)) ({ frames := 1, cells := 0, slots := 0, locals := 29 }) [.ref (ad 77), .int (nI 0), .int (nI 1)] D (tyL cI cJ cZ cD) ad 89 w sz (some (.int (nI 0))) (fun u => (∀ z, z < 77 ∨ 87 < z → u z = w z) ∧ RM ad cJ cZ u (nI 2) n t 0 qu en kp dl ou cp ks pt co sh vs) := by
  refine MW.of (by decide) (Nat.le_of_ble_eq_true rfl) ?_
  intro p e s m below meth c ls hC hr hlocks hl hw
  obtain ⟨hx, hb, hml, hown, hts⟩ := id hC
  have hA : ∀ q, s.heap.size ≤ q → xA ad 89 s.heap.size q := fun q h => Or.inr h
  have hl : lv_has ls 4 [(0, .ref (ad 77)), (1, .int (nI 0)), (2, .int (nI 1))] := hl
  obtain ⟨⟨hs, hM⟩, ⟨dz, oz, hDz, hOz, hdo⟩, ⟨cf, mf, sf, hCf, hMf, hSf, hcs⟩, ⟨xf, hXf, hxx⟩, ⟨kyf, swf, hKy, hSw, hks⟩, ⟨vlf, hVl, hvl⟩, ⟨plf, hPl, hpl⟩⟩ := id hRM
  obtain ⟨⟨hn, ht, hcl, hqu, hen, hkp⟩, hle, ⟨hqb, hkb, hcb⟩, hvals, hclv, hptl, ⟨hz1, hz2, hz3⟩⟩ := id hok
  subst hcl0
  refine lv_aload_n hx hb dX5_key_0 rfl (lv_at hl 0 rfl) ?_
  refine lv_iload_n hx hb dX5_key_1 rfl (lv_at hl 1 rfl) ?_
  refine x_callW1 (As := [.int (nI 0)]) (rest := []) hC vf_X5_84 hw hA (by decide) hM rfl rfl (k5_isNodeN l _ _ _ _ _ _ _ _ (nI 0) (fun q => absurd q.1 (by decide)) hM) ⟨rfl, rfl, Nat.le_of_ble_eq_true rfl, Nat.le_of_ble_eq_true rfl⟩ hl.1 (Nat.le_of_ble_eq_true rfl) dX5_key_2 ⟨Nat.zero_le _, Nat.zero_le _⟩ rfl (fun w_1 H locs hu hw => ?_)
  rw [hu] at hw
  refine lv_if_ne (tgt := 17) hx hb dX5_key_5 (by decide) (fun q_2 => absurd (by decide) q_2) (fun q_2 => ?_)
  refine lv_iload_n hx hb dX5_key_8 rfl (lv_at hl 1 rfl) ?_
  refine lv_if_ne (tgt := 30) hx hb dX5_key_9 (by decide) (fun q_3 => absurd (by decide) q_3) (fun q_3 => ?_)
  refine lv_iload_n hx hb dX5_key_12 rfl (lv_at hl 2 rfl) ?_
  refine lv_iconst (v := nI 1) hx hb dX5_key_13 (by decide) ?_
  refine lv_icmp_ne (tgt := 30) hx hb dX5_key_14 (by decide) (fun q_4 => absurd (by decide) q_4) (fun q_4 => ?_)
  refine lv_iload_n hx hb dX5_key_17 rfl (lv_at hl 2 rfl) ?_
  refine lv_if_lt (tgt := 30) hx hb dX5_key_18 (by decide) (fun q_5 => absurd q_5 (by decide)) (fun q_5 => ?_)
  refine lv_iload_n hx hb dX5_key_21 rfl (lv_at hl 2 rfl) ?_
  refine lv_iconst (v := nI 1) hx hb dX5_key_22 (by decide) ?_
  refine lv_icmp_gt (tgt := 30) hx hb dX5_key_23 (by decide) (fun q_6 => absurd q_6 (by decide)) (fun q_6 => ?_)
  refine lv_iconst (v := nI 1) hx hb dX5_key_26 (by decide) ?_
  refine lv_goto (tgt := 31) hx hb dX5_key_27 (by decide) ?_
  refine lv_istore_n (lv' := [(3, .int (nI 1)), (0, .ref (ad 77)), (1, .int (nI 0)), (2, .int (nI 1))]) hx hb dX5_key_31 rfl hl (by decide) rfl (fun ls hl => ?_)
  refine lv_aload_n hx hb dX5_key_32 rfl (lv_at hl 1 rfl) ?_
  refine lv_iload_n hx hb dX5_key_33 rfl (lv_at hl 0 rfl) ?_
  refine lv_if_ne (tgt := 41) hx hb dX5_key_34 (by decide) (fun q_7 => ?_) (fun q_7 => absurd q_7 (by decide))
  refine lv_aload_n hx hb dX5_key_41 rfl (lv_at hl 1 rfl) ?_
  refine gf_X5_71 hx hb hts hown hw (by decide) hM rfl dX5_key_42 ?_
  refine lv_if_ne (tgt := 52) hx hb dX5_key_45 (by decide) (fun q_8 => absurd (by decide) q_8) (fun q_8 => ?_)
  refine lv_iconst (v := nI 2) hx hb dX5_key_48 (by decide) ?_
  refine lv_goto (tgt := 53) hx hb dX5_key_49 (by decide) ?_
  refine x_callW1 (As := [.int (nI 2)]) (rest := []) hC vf_X5_64 hw hA (by decide) hM rfl rfl (k5_refuses2 l _ _ _ _ _ _ _ _ hM) ⟨rfl, rfl, Nat.le_of_ble_eq_true rfl, Nat.le_of_ble_eq_true rfl⟩ hl.1 (Nat.le_of_ble_eq_true rfl) dX5_key_53 ⟨Nat.zero_le _, Nat.zero_le _⟩ rfl (fun w_10 H locs hu_9 hw => ?_)
  have hc_11 : w_10 77 = .inr (4, [.int (nI 2), .int (nI n), .int (nI t), .int (nI 0), .ref (ad 78), .ref (ad 79), .ref (ad 80), .ref (ad 81), .ref (ad 82), .ref (ad 83), .int (nI qu), .ref (ad 84), .ref (ad 85), .ref (ad 86), .int (nI en), .int (nI kp), .ref (ad 87), .long hs]) := by rw [hu_9]; exact va_up_self _ _ _
  have hc_12 : w_10 78 = .inl (cZ, 17, .inl dz) := by rw [hu_9, va_up_ne _ _ (by decide)]; exact hDz
  have hc_13 : w_10 79 = .inl (cZ, 17, .inl oz) := by rw [hu_9, va_up_ne _ _ (by decide)]; exact hOz
  have hc_14 : w_10 80 = .inl (cJ, 289, .inr (.inl cf)) := by rw [hu_9, va_up_ne _ _ (by decide)]; exact hCf
  have hc_15 : w_10 81 = .inl (cJ, 289, .inr (.inl mf)) := by rw [hu_9, va_up_ne _ _ (by decide)]; exact hMf
  have hc_16 : w_10 82 = .inl (cJ, 289, .inr (.inl sf)) := by rw [hu_9, va_up_ne _ _ (by decide)]; exact hSf
  have hc_17 : w_10 83 = .inl (cZ, 289, .inl xf) := by rw [hu_9, va_up_ne _ _ (by decide)]; exact hXf
  have hc_18 : w_10 84 = .inl (cJ, 17, .inr (.inl kyf)) := by rw [hu_9, va_up_ne _ _ (by decide)]; exact hKy
  have hc_19 : w_10 85 = .inl (cJ, 17, .inr (.inl swf)) := by rw [hu_9, va_up_ne _ _ (by decide)]; exact hSw
  have hc_20 : w_10 86 = .inl (cJ, 301, .inr (.inl vlf)) := by rw [hu_9, va_up_ne _ _ (by decide)]; exact hVl
  have hc_21 : w_10 87 = .inl (cJ, 17, .inr (.inl plf)) := by rw [hu_9, va_up_ne _ _ (by decide)]; exact hPl
  refine lv_if_eq (tgt := 61) hx hb dX5_key_56 (by decide) (fun q_22 => absurd q_22 (by decide)) (fun q_22 => ?_)
  refine lv_iconst (v := nI 0) hx hb dX5_key_59 (by decide) ?_
  have hfr : ∀ z, z ≠ 77 → w_10 z = w z := fun z hhfr0 => by rw [hu_9, va_up_ne _ _ hhfr0]
  exact x_wretI hx hb hr hlocks hw ⟨fun z hz => hfr z (by omega), RM.set77 hRM hfr hc_11⟩ dX5_key_60
set_option maxHeartbeats 4000000 in
set_option maxRecDepth 100000 in
theorem m_keySN (l : Launch) {D : va_G} {cI cJ cZ cD : ClassId} {ad : Nat → Nat} {w : Nat → va_E} {sz : Nat} (n t cl qu en kp : Nat) (dl ou cp ks pt : Nat → Nat) (co sh : Nat → Nat → Nat) (vs : Nat → Int64) (cd : Int32) (hok : OkS n t cl qu en kp dl ou cp ks pt co sh) (hRM : RM ad cJ cZ w cd n t cl qu en kp dl ou cp ks pt co sh vs) (k j : Nat) (hk1 : 1 ≤ k) (hk2 : k ≤ n) (hj : j ≤ 1) (hcl0 : cl = 0)  : MW l yX5_key (.code yX5_key cX5_key 4 (some .int)) ({ frames := 1, cells := 0, slots := 0, locals := 29 }) [.ref (ad 77), .int (nI k), .int (nI j)] D (tyL cI cJ cZ cD) ad 89 w sz (some (.int (nI 0))) (fun u => (∀ z, z < 77 ∨ 87 < z → u z = w z) ∧ RM ad cJ cZ u (nI 2) n t 0 qu en kp dl ou cp ks pt co sh vs) := by
  refine MW.of (by decide) (Nat.le_of_ble_eq_true rfl) ?_
  intro p e s m below meth c ls hC hr hlocks hl hw
  obtain ⟨hx, hb, hml, hown, hts⟩ := id hC
  have hA : ∀ q, s.heap.size ≤ q → xA ad 89 s.heap.size q := fun q h => Or.inr h
  have hl : lv_has ls 4 [(0, .ref (ad 77)), (1, .int (nI k)), (2, .int (nI j))] := hl
  obtain ⟨⟨hs, hM⟩, ⟨dz, oz, hDz, hOz, hdo⟩, ⟨cf, mf, sf, hCf, hMf, hSf, hcs⟩, ⟨xf, hXf, hxx⟩, ⟨kyf, swf, hKy, hSw, hks⟩, ⟨vlf, hVl, hvl⟩, ⟨plf, hPl, hpl⟩⟩ := id hRM
  obtain ⟨⟨hn, ht, hcl, hqu, hen, hkp⟩, hle, ⟨hqb, hkb, hcb⟩, hvals, hclv, hptl, ⟨hz1, hz2, hz3⟩⟩ := id hok
  subst hcl0
  refine lv_aload_n hx hb dX5_key_0 rfl (lv_at hl 0 rfl) ?_
  refine lv_iload_n hx hb dX5_key_1 rfl (lv_at hl 1 rfl) ?_
  refine x_callW1 (As := [.int (nI k)]) (rest := []) hC vf_X5_84 hw hA (by decide) hM rfl rfl (k5_isNode l _ _ _ _ _ _ _ _ hn k hk1 hk2 hM) ⟨rfl, rfl, Nat.le_of_ble_eq_true rfl, Nat.le_of_ble_eq_true rfl⟩ hl.1 (Nat.le_of_ble_eq_true rfl) dX5_key_2 ⟨Nat.zero_le _, Nat.zero_le _⟩ rfl (fun w_1 H locs hu hw => ?_)
  rw [hu] at hw
  refine lv_if_ne (tgt := 17) hx hb dX5_key_5 (by decide) (fun q_2 => ?_) (fun q_2 => absurd q_2 (by decide))
  refine lv_iload_n hx hb dX5_key_17 rfl (lv_at hl 2 rfl) ?_
  refine lv_if_lt (tgt := 30) hx hb dX5_key_18 (by decide) (fun q1 => absurd q1 (nI_pos (by omega))) (fun q1 => ?_)
  refine lv_iload_n hx hb dX5_key_21 rfl (lv_at hl 2 rfl) ?_
  refine lv_iconst (v := nI 1) hx hb dX5_key_22 (by decide) ?_
  refine lv_icmp_gt (tgt := 30) hx hb dX5_key_23 (by decide) (fun q2 => absurd q2 (nI_nlt (by omega) (by omega))) (fun q2 => ?_)
  refine lv_iconst (v := nI 1) hx hb dX5_key_26 (by decide) ?_
  refine lv_goto (tgt := 31) hx hb dX5_key_27 (by decide) ?_
  refine lv_istore_n (lv' := [(3, .int (nI 1)), (0, .ref (ad 77)), (1, .int (nI k)), (2, .int (nI j))]) hx hb dX5_key_31 rfl hl (by decide) rfl (fun ls hl => ?_)
  refine lv_aload_n hx hb dX5_key_32 rfl (lv_at hl 1 rfl) ?_
  refine lv_iload_n hx hb dX5_key_33 rfl (lv_at hl 0 rfl) ?_
  refine lv_if_ne (tgt := 41) hx hb dX5_key_34 (by decide) (fun q_3 => ?_) (fun q_3 => absurd q_3 (by decide))
  refine lv_aload_n hx hb dX5_key_41 rfl (lv_at hl 1 rfl) ?_
  refine gf_X5_71 hx hb hts hown hw (by decide) hM rfl dX5_key_42 ?_
  refine lv_if_ne (tgt := 52) hx hb dX5_key_45 (by decide) (fun q_4 => absurd (by decide) q_4) (fun q_4 => ?_)
  refine lv_iconst (v := nI 2) hx hb dX5_key_48 (by decide) ?_
  refine lv_goto (tgt := 53) hx hb dX5_key_49 (by decide) ?_
  refine x_callW1 (As := [.int (nI 2)]) (rest := []) hC vf_X5_64 hw hA (by decide) hM rfl rfl (k5_refuses2 l _ _ _ _ _ _ _ _ hM) ⟨rfl, rfl, Nat.le_of_ble_eq_true rfl, Nat.le_of_ble_eq_true rfl⟩ hl.1 (Nat.le_of_ble_eq_true rfl) dX5_key_53 ⟨Nat.zero_le _, Nat.zero_le _⟩ rfl (fun w_6 H locs hu_5 hw => ?_)
  have hc_7 : w_6 77 = .inr (4, [.int (nI 2), .int (nI n), .int (nI t), .int (nI 0), .ref (ad 78), .ref (ad 79), .ref (ad 80), .ref (ad 81), .ref (ad 82), .ref (ad 83), .int (nI qu), .ref (ad 84), .ref (ad 85), .ref (ad 86), .int (nI en), .int (nI kp), .ref (ad 87), .long hs]) := by rw [hu_5]; exact va_up_self _ _ _
  have hc_8 : w_6 78 = .inl (cZ, 17, .inl dz) := by rw [hu_5, va_up_ne _ _ (by decide)]; exact hDz
  have hc_9 : w_6 79 = .inl (cZ, 17, .inl oz) := by rw [hu_5, va_up_ne _ _ (by decide)]; exact hOz
  have hc_10 : w_6 80 = .inl (cJ, 289, .inr (.inl cf)) := by rw [hu_5, va_up_ne _ _ (by decide)]; exact hCf
  have hc_11 : w_6 81 = .inl (cJ, 289, .inr (.inl mf)) := by rw [hu_5, va_up_ne _ _ (by decide)]; exact hMf
  have hc_12 : w_6 82 = .inl (cJ, 289, .inr (.inl sf)) := by rw [hu_5, va_up_ne _ _ (by decide)]; exact hSf
  have hc_13 : w_6 83 = .inl (cZ, 289, .inl xf) := by rw [hu_5, va_up_ne _ _ (by decide)]; exact hXf
  have hc_14 : w_6 84 = .inl (cJ, 17, .inr (.inl kyf)) := by rw [hu_5, va_up_ne _ _ (by decide)]; exact hKy
  have hc_15 : w_6 85 = .inl (cJ, 17, .inr (.inl swf)) := by rw [hu_5, va_up_ne _ _ (by decide)]; exact hSw
  have hc_16 : w_6 86 = .inl (cJ, 301, .inr (.inl vlf)) := by rw [hu_5, va_up_ne _ _ (by decide)]; exact hVl
  have hc_17 : w_6 87 = .inl (cJ, 17, .inr (.inl plf)) := by rw [hu_5, va_up_ne _ _ (by decide)]; exact hPl
  refine lv_if_eq (tgt := 61) hx hb dX5_key_56 (by decide) (fun q_18 => absurd q_18 (by decide)) (fun q_18 => ?_)
  refine lv_iconst (v := nI 0) hx hb dX5_key_59 (by decide) ?_
  have hfr : ∀ z, z ≠ 77 → w_6 z = w z := fun z hhfr0 => by rw [hu_5, va_up_ne _ _ hhfr0]
  exact x_wretI hx hb hr hlocks hw ⟨fun z hz => hfr z (by omega), RM.set77 hRM hfr hc_7⟩ dX5_key_60
