/-! the law's loop -/
theorem and31 (x : Int32) : ∃ r : Nat, r < 32 ∧ x &&& nI 31 = nI r := by
  refine ⟨x.toBitVec.toNat % 32, Nat.mod_lt _ (by decide), ?_⟩
  apply Int32.toBitVec_inj.mp
  rw [Int32.toBitVec_and]
  show x.toBitVec &&& BitVec.ofNat 32 31 = BitVec.ofNat 32 (x.toBitVec.toNat % 32)
  apply BitVec.eq_of_toNat_eq
  rw [BitVec.toNat_and, BitVec.toNat_ofNat, BitVec.toNat_ofNat]
  show x.toBitVec.toNat &&& (2 ^ 5 - 1) = _
  rw [Nat.and_two_pow_sub_one_eq_mod, Nat.mod_eq_of_lt (show x.toBitVec.toNat % 32 < 2 ^ 32 by omega)]
theorem lw_gt {L q : Nat} (hL : L ≤ 3072) (hq : q ≤ 1000) : (nI L - nI 6 < nI (6 * q)) ↔ L < 6 * q + 6 := by
  rw [Int32.lt_iff_toInt_lt, pk_sub_toInt (by omega) (by omega), nI_toInt (by omega)]
  omega
theorem lw_end {p : Program} {l : Launch} {e : Env} {s : State} {m : MethodId} {below : List Frame} {meth : Method} {c : Code} {b : Nat} {D : va_G} {tys : List (ClassId × FieldType)} {ad : Nat → Nat} {N : Nat} {w : Nat → va_E} {H : Heap} {locs : List Loc} {cells slots : Nat} {ls : Array Slot} (hx : p.tables.exec = Jvm.exec) (hb : c.code = code) (hr : meth.sig.returnType = ret) (hlocks : meth.locks = false) (hw : WW D vwCl tys (fun q => s.heap.size ≤ q) s.heap ad N w s H locs) (h1 : cells ≤ 601024) (h2 : slots ≤ 7293034) : W p l e room_1 s m #[Value.ref b] below meth c H locs cells slots (lw_Z below #[Value.ref b] s) (F0 m 1353 ls []) := by
  refine lv_iconst (v := 1) hx hb dL_law_1353 (by decide) ?_
  refine va_forget (fun q hq => hw.2.2.2.2.2 q hq) ?_
  refine W.widen (k := 601024) (n := 7293034) h1 h2 ?_
  exact lw_ret hx hb hr hlocks dL_law_1354

set_option maxHeartbeats 4000000 in
set_option maxRecDepth 100000 in
theorem law_loop {l : Launch} {p : Program} {e : Env} {s : State} {m : MethodId} {below : List Frame} {meth : Method} {c : Code} {D : va_G} {cI cJ cZ cD : ClassId} {ad : Nat → Nat} {sa : Nat → Nat} {b L : Nat} {xs : Nat → Int32} (hl0 : l.stackTraces = false) (hC : CallFix p m c cL_law 8 s #[.ref b] wsL_law RL) (hiniL : (Cond.initialized RL).before #[.ref b] s = true) (hX : va_X b L xs s s.heap) (hbl : b < s.heap.size) (hT : TH sa (fun q => s.heap.size ≤ q) s) (hL : L ≤ 3072) (hr : meth.sig.returnType = ret) (hlocks : meth.locks = false) :
    ∀ (j q : Nat) (w : Nat → va_E) (H : Heap) (locs : List Loc) (ls : Array Slot), L < 6 * q + 6 * j + 6 → q ≤ 513 → INV ad cI cJ cZ cD w → WW D vwCl (tyL cI cJ cZ cD) (fun q => s.heap.size ≤ q) s.heap ad 89 w s H locs → lv_has ls 8 [(0, .ref b), (1, .ref (ad 0)), (2, .ref (ad 77)), (3, .ref (ad 88)), (4, .int (nI (6 * q)))] → W p l e room_1 s m #[.ref b] below meth c H locs (89 + q) (2918 + 6 * q) (lw_Z below #[.ref b] s) (F0 m 23 ls []) := by
  obtain ⟨hx, hb, hml, hown, hts⟩ := id hC
  have hbA : ¬ (fun q => s.heap.size ≤ q) b := Nat.not_le.mpr hbl
  have hA : ∀ q, s.heap.size ≤ q → (fun q => s.heap.size ≤ q) q := fun _ h => h
  have hex : ∀ (q : Nat) (w : Nat → va_E) (H : Heap) (locs : List Loc) (ls : Array Slot), L < 6 * q + 6 → q ≤ 513 → WW D vwCl (tyL cI cJ cZ cD) (fun q => s.heap.size ≤ q) s.heap ad 89 w s H locs → lv_has ls 8 [(0, .ref b), (1, .ref (ad 0)), (2, .ref (ad 77)), (3, .ref (ad 88)), (4, .int (nI (6 * q)))] → W p l e room_1 s m #[.ref b] below meth c H locs (89 + q) (2918 + 6 * q) (lw_Z below #[.ref b] s) (F0 m 23 ls []) := by
    intro q w H locs ls hq hq5 hw hl
    refine lv_iload hx hb dL_law_23 (lv_at hl 4 rfl) ?_
    refine lv_aload_n hx hb dL_law_25 rfl (lv_at hl 0 rfl) ?_
    refine va_slen hx hb hX hbl hbA hw.2.2.2 dL_law_26 ?_
    refine lv_bipush (v := nI 6) hx hb dL_law_27 (by decide) ?_
    refine lv_isub hx hb dL_law_29 ?_
    refine lv_icmp_gt (tgt := 1353) hx hb dL_law_30 (by decide) (fun hc => ?_) (fun hc => absurd ((lw_gt hL (by omega)).mpr hq) hc)
    exact lw_end hx hb hr hlocks hw (by omega) (by omega)
  intro j
  induction j with
  | zero =>
    intro q w H locs ls hq hq5 hinv hw hl
    exact hex q w H locs ls (by omega) hq5 hw hl
  | succ j ih =>
    intro q w H locs ls hq hq5 hinv hw hl
    by_cases hend : L < 6 * q + 6
    · exact hex q w H locs ls hend hq5 hw hl
    have hq5 : q ≤ 512 := by omega
    have hnext : ∀ (w : Nat → va_E) (H : Heap) (locs : List Loc) (ls : Array Slot), INV ad cI cJ cZ cD w → WW D vwCl (tyL cI cJ cZ cD) (fun q => s.heap.size ≤ q) s.heap ad 89 w s H locs → lv_has ls 8 [(0, .ref b), (1, .ref (ad 0)), (2, .ref (ad 77)), (3, .ref (ad 88)), (4, .int (nI (6 * q)))] → W p l e room_1 s m #[.ref b] below meth c H locs (89 + q + 1) (2918 + 6 * q + 6) (lw_Z below #[.ref b] s) (F0 m 1347 ls []) := by
      intro w H locs ls hinv hw hl
      refine lv_iinc (v := nI (6 * (q + 1))) (lv' := [(4, .int (nI (6 * (q + 1)))), (0, .ref b), (1, .ref (ad 0)), (2, .ref (ad 77)), (3, .ref (ad 88))]) hx hb dL_law_1347 hl (k := 4) rfl (by show nI (6 * q) + nI 6 = nI (6 * (q + 1)); rw [nI_add, show 6 * q + 6 = 6 * (q + 1) by omega]) (by decide) rfl (fun ls hl => ?_)
      refine lv_goto (tgt := 23) hx hb dL_law_1350 (by decide) ?_
      refine x_cast (c2 := 89 + (q + 1)) (s2 := 2918 + 6 * (q + 1)) (by omega) (by omega) ?_
      exact ih (q + 1) w H locs ls (by omega) (by omega) hinv hw (lv_sub hl [1, 2, 3, 4, 0] rfl)
    refine lv_iload hx hb dL_law_23 (lv_at hl 4 rfl) ?_
    refine lv_aload_n hx hb dL_law_25 rfl (lv_at hl 0 rfl) ?_
    refine va_slen hx hb hX hbl hbA hw.2.2.2 dL_law_26 ?_
    refine lv_bipush (v := nI 6) hx hb dL_law_27 (by decide) ?_
    refine lv_isub hx hb dL_law_29 ?_
    refine lv_icmp_gt (tgt := 1353) hx hb dL_law_30 (by decide) (fun hc => absurd hc (fun q9 => hend ((lw_gt hL (by omega)).mp q9))) (fun hc => ?_)
    refine lv_aload_n hx hb dL_law_33 rfl (lv_at hl 0 rfl) ?_
    refine lv_iload hx hb dL_law_34 (lv_at hl 4 rfl) ?_
    refine x_sld hx hb hX hbl hbA hL hw (j := 6 * q) (by omega) dL_law_36 ?_
    refine lv_bipush (v := nI 31) hx hb dL_law_37 (by decide) ?_
    refine lv_iand hx hb dL_law_39 ?_
    obtain ⟨r, hr9, er⟩ := and31 (xs (6 * q))
    rw [er]
    have hce : 89 + q + 1 ≤ room_1.cells ∧ 2918 + 6 * q + 6 ≤ room_1.slots := ⟨show 89 + q + 1 ≤ 601024 by omega, show 2918 + 6 * q + 6 ≤ 7293034 by omega⟩
    rcases (show r = 0 ∨ r = 1 ∨ r = 2 ∨ r = 3 ∨ r = 4 ∨ r = 5 ∨ r = 6 ∨ r = 7 ∨ r = 8 ∨ r = 9 ∨ r = 10 ∨ r = 11 ∨ r = 12 ∨ r = 13 ∨ r = 14 ∨ r = 15 ∨ r = 16 ∨ r = 17 ∨ 18 ≤ r by omega) with hk | hk | hk | hk | hk | hk | hk | hk | hk | hk | hk | hk | hk | hk | hk | hk | hk | hk | hk
    · subst hk
      refine lv_tableIn (x := nI 0) (off := 88) (tgt := 128) hx hb dL_law_40 (by decide) (by decide) (by decide) (by decide) ?_
      exact lc_begin hl0 hC hiniL hX hbl hbA hA hT q (by omega) hL hce hw (lv_sub hl [0, 1, 2, 3, 4] rfl) hinv hnext
    · subst hk
      refine lv_tableIn (x := nI 1) (off := 136) (tgt := 176) hx hb dL_law_40 (by decide) (by decide) (by decide) (by decide) ?_
      exact lc_deal hl0 hC hiniL hX hbl hbA hA hT q (by omega) hL hce hw (lv_sub hl [0, 1, 2, 3, 4] rfl) hinv hnext
    · subst hk
      refine lv_tableIn (x := nI 2) (off := 216) (tgt := 256) hx hb dL_law_40 (by decide) (by decide) (by decide) (by decide) ?_
      exact lc_spoil hl0 hC hiniL hX hbl hbA hA hT q (by omega) hL hce hw (lv_sub hl [0, 1, 2, 3, 4] rfl) hinv hnext
    · subst hk
      refine lv_tableIn (x := nI 3) (off := 296) (tgt := 336) hx hb dL_law_40 (by decide) (by decide) (by decide) (by decide) ?_
      exact lc_commitment hl0 hC hiniL hX hbl hbA hA hT q (by omega) hL hce hw (lv_sub hl [0, 1, 2, 3, 4] rfl) hinv hnext
    · subst hk
      refine lv_tableIn (x := nI 4) (off := 364) (tgt := 404) hx hb dL_law_40 (by decide) (by decide) (by decide) (by decide) ?_
      exact lc_share hl0 hC hiniL hX hbl hbA hA hT q (by omega) hL hce hw (lv_sub hl [0, 1, 2, 3, 4] rfl) hinv hnext
    · subst hk
      refine lv_tableIn (x := nI 5) (off := 432) (tgt := 472) hx hb dL_law_40 (by decide) (by decide) (by decide) (by decide) ?_
      exact lc_isRight hl0 hC hiniL hX hbl hbA hA hT q (by omega) hL hce hw (lv_sub hl [0, 1, 2, 3, 4] rfl) hinv hnext
    · subst hk
      refine lv_tableIn (x := nI 6) (off := 519) (tgt := 559) hx hb dL_law_40 (by decide) (by decide) (by decide) (by decide) ?_
      exact lc_complain hl0 hC hiniL hX hbl hbA hA hT q (by omega) hL hce hw (lv_sub hl [0, 1, 2, 3, 4] rfl) hinv hnext
    · subst hk
      refine lv_tableIn (x := nI 7) (off := 563) (tgt := 603) hx hb dL_law_40 (by decide) (by decide) (by decide) (by decide) ?_
      exact lc_answer hl0 hC hiniL hX hbl hbA hA hT q (by omega) hL hce hw (lv_sub hl [0, 1, 2, 3, 4] rfl) hinv hnext
    · subst hk
      refine lv_tableIn (x := nI 8) (off := 650) (tgt := 690) hx hb dL_law_40 (by decide) (by decide) (by decide) (by decide) ?_
      exact lc_close hl0 hC hiniL hX hbl hbA hA hT q (by omega) hL hce hw (lv_sub hl [0, 1, 2, 3, 4] rfl) hinv hnext
    · subst hk
      refine lv_tableIn (x := nI 9) (off := 738) (tgt := 778) hx hb dL_law_40 (by decide) (by decide) (by decide) (by decide) ?_
      exact lc_key hl0 hC hiniL hX hbl hbA hA hT q (by omega) hL hce hw (lv_sub hl [0, 1, 2, 3, 4] rfl) hinv hnext
    · subst hk
      refine lv_tableIn (x := nI 10) (off := 806) (tgt := 846) hx hb dL_law_40 (by decide) (by decide) (by decide) (by decide) ?_
      exact lc_round hl0 hC hiniL hX hbl hbA hA hT q (by omega) hL hce hw (lv_sub hl [0, 1, 2, 3, 4] rfl) hinv hnext
    · subst hk
      refine lv_tableIn (x := nI 11) (off := 862) (tgt := 902) hx hb dL_law_40 (by decide) (by decide) (by decide) (by decide) ?_
      exact lc_says hl0 hC hiniL hX hbl hbA hA hT q (by omega) hL hce hw (lv_sub hl [0, 1, 2, 3, 4] rfl) hinv hnext
    · subst hk
      refine lv_tableIn (x := nI 12) (off := 930) (tgt := 970) hx hb dL_law_40 (by decide) (by decide) (by decide) (by decide) ?_
      exact lc_offer hl0 hC hiniL hX hbl hbA hA hT q (by omega) hL hce hw (lv_sub hl [0, 1, 2, 3, 4] rfl) hinv hnext
    · subst hk
      refine lv_tableIn (x := nI 13) (off := 1041) (tgt := 1081) hx hb dL_law_40 (by decide) (by decide) (by decide) (by decide) ?_
      exact lc_value hl0 hC hiniL hX hbl hbA hA hT q (by omega) hL hce hw (lv_sub hl [0, 1, 2, 3, 4] rfl) hinv hnext
    · subst hk
      refine lv_tableIn (x := nI 14) (off := 1097) (tgt := 1137) hx hb dL_law_40 (by decide) (by decide) (by decide) (by decide) ?_
      exact lc_publish hl0 hC hiniL hX hbl hbA hA hT q (by omega) hL hce hw (lv_sub hl [0, 1, 2, 3, 4] rfl) hinv hnext
    · subst hk
      refine lv_tableIn (x := nI 15) (off := 1141) (tgt := 1181) hx hb dL_law_40 (by decide) (by decide) (by decide) (by decide) ?_
      exact lc_ended hl0 hC hiniL hX hbl hbA hA hT q (by omega) hL hce hw (lv_sub hl [0, 1, 2, 3, 4] rfl) hinv hnext
    · subst hk
      refine lv_tableIn (x := nI 16) (off := 1196) (tgt := 1236) hx hb dL_law_40 (by decide) (by decide) (by decide) (by decide) ?_
      exact lc_random hl0 hC hiniL hX hbl hbA hA hT q (by omega) hL hce hw (lv_sub hl [0, 1, 2, 3, 4] rfl) hinv hnext
    · subst hk
      refine lv_tableIn (x := nI 17) (off := 1251) (tgt := 1291) hx hb dL_law_40 (by decide) (by decide) (by decide) (by decide) ?_
      exact lc_about hl0 hC hiniL hX hbl hbA hA hT q (by omega) hL hce hw (lv_sub hl [0, 1, 2, 3, 4] rfl) hinv hnext
    · have hk2 : (r : Int) ≤ 31 := by omega
      refine lv_tableOut (x := nI r) (tgt := 1347) hx hb dL_law_40 (Or.inr (by rw [nI_toInt (by omega)]; omega)) (by decide) ?_
      refine W.widen (k := 89 + q + 1) (n := 2918 + 6 * q + 6) (by omega) (by omega) ?_
      exact hnext w H locs ls hinv hw (lv_sub hl [0, 1, 2, 3, 4] rfl)
