/-! the law's body, one call: the ring answers, the reference answers, they are held together -/
def INV (ad : Nat → Nat) (cI cJ cZ cD : ClassId) (w : Nat → va_E) : Prop :=
  ∃ (cd : Int32) (n t cl qu en kp : Nat) (dl ou cp ks pt : Nat → Nat) (co sh : Nat → Nat → Nat) (vs ofn : Nat → Int64), OkS n t cl qu en kp dl ou cp ks pt co sh ∧ (1 ≤ n → 1 ≤ t) ∧ RC ad cI cJ cD w n t cl qu en kp dl ou cp ks pt co sh vs ∧ RM ad cJ cZ w cd n t cl qu en kp dl ou cp ks pt co sh vs ∧ w 88 = .inl (cJ, 1, .inr (.inl ofn))
def INVv (ad : Nat → Nat) (cI cJ cZ cD : ClassId) (w : Nat → va_E) (k : Nat) : Prop := (∃ (n t cl qu en kp : Nat) (hs : Int64), w 77 = .inr (4, [.int (nI k), .int (nI n), .int (nI t), .int (nI cl), .ref (ad 78), .ref (ad 79), .ref (ad 80), .ref (ad 81), .ref (ad 82), .ref (ad 83), .int (nI qu), .ref (ad 84), .ref (ad 85), .ref (ad 86), .int (nI en), .int (nI kp), .ref (ad 87), .long hs])) ∧ INV ad cI cJ cZ cD w
def INVk (ad : Nat → Nat) (cI cJ cZ cD : ClassId) (w : Nat → va_E) (k : Nat) (bv : Int64) : Prop := (∃ (n t cl qu en kp : Nat) (hs : Int64), w 77 = .inr (4, [.int (nI k), .int (nI n), .int (nI t), .int (nI cl), .ref (ad 78), .ref (ad 79), .ref (ad 80), .ref (ad 81), .ref (ad 82), .ref (ad 83), .int (nI qu), .ref (ad 84), .ref (ad 85), .ref (ad 86), .int (nI en), .int (nI kp), .ref (ad 87), .long hs])) ∧ (∃ ofn : Nat → Int64, w 88 = .inl (cJ, 1, .inr (.inl ofn)) ∧ (k = 0 → ofn 0 = bv)) ∧ INV ad cI cJ cZ cD w
section INVS
variable {ad : Nat → Nat} {cI cJ cZ cD : ClassId} {w u u2 : Nat → va_E} {n t cl qu en kp n2 t2 cl2 qu2 en2 kp2 : Nat} {dl ou cp ks pt dl2 ou2 cp2 ks2 pt2 : Nat → Nat} {co sh co2 sh2 : Nat → Nat → Nat} {vs vs2 ofn : Nat → Int64} {cd : Int32} {k : Nat} {bv : Int64}
theorem inv_exV (hok : OkS n t cl qu en kp dl ou cp ks pt co sh) (ht1 : 1 ≤ n → 1 ≤ t) (hRC : RC ad cI cJ cD w n t cl qu en kp dl ou cp ks pt co sh vs) (hO : w 88 = .inl (cJ, 1, .inr (.inl ofn))) (h2 : (∀ z, z < 77 ∨ 87 < z → u2 z = w z) ∧ RM ad cJ cZ u2 (nI k) n t cl qu en kp dl ou cp ks pt co sh vs) : INVv ad cI cJ cZ cD u2 k := by
  obtain ⟨hs, h77⟩ := h2.2.1
  exact ⟨⟨n, t, cl, qu, en, kp, hs, h77⟩, nI k, n, t, cl, qu, en, kp, dl, ou, cp, ks, pt, co, sh, vs, ofn, hok, ht1, hRC.of (fun z hz => h2.1 z (by omega)), h2.2, (h2.1 88 (by decide)).trans hO⟩
theorem inv_exK (hok : OkS n t cl qu en kp dl ou cp ks pt co sh) (ht1 : 1 ≤ n → 1 ≤ t) (hRC : RC ad cI cJ cD w n t cl qu en kp dl ou cp ks pt co sh vs) (hO : w 88 = .inl (cJ, 1, .inr (.inl ofn))) (hk : k ≠ 0) (h2 : (∀ z, z < 77 ∨ 87 < z → u2 z = w z) ∧ RM ad cJ cZ u2 (nI k) n t cl qu en kp dl ou cp ks pt co sh vs) : INVk ad cI cJ cZ cD u2 k bv := by
  have h := inv_exV hok ht1 hRC hO h2
  exact ⟨h.1, ⟨ofn, (h2.1 88 (by decide)).trans hO, fun q => absurd q hk⟩, h.2⟩
theorem inv_okV (hok : OkS n t cl qu en kp dl ou cp ks pt co sh) (ht1 : 1 ≤ n → 1 ≤ t) (hO : w 88 = .inl (cJ, 1, .inr (.inl ofn))) (h1 : (∀ z, 76 < z → u z = w z) ∧ RC ad cI cJ cD u n t cl qu en kp dl ou cp ks pt co sh vs) (h2 : (∀ z, z < 77 ∨ 87 < z → u2 z = u z) ∧ RM ad cJ cZ u2 (nI 0) n t cl qu en kp dl ou cp ks pt co sh vs) : INVv ad cI cJ cZ cD u2 0 :=
  inv_exV hok ht1 h1.2 ((h1.1 88 (by decide)).trans hO) h2
theorem inv_okK (hok : OkS n t cl qu en kp dl ou cp ks pt co sh) (ht1 : 1 ≤ n → 1 ≤ t) (h1 : ((∀ z, 76 < z → z ≠ 88 → u z = w z) ∧ RC ad cI cJ cD u n t cl qu en kp dl ou cp ks pt co sh vs) ∧ u 88 = .inl (cJ, 1, .inr (.inl (vp_updL ofn 0 bv)))) (h2 : (∀ z, z < 77 ∨ 87 < z → u2 z = u z) ∧ RM ad cJ cZ u2 (nI 0) n t cl qu en kp dl ou cp ks pt co sh vs) : INVk ad cI cJ cZ cD u2 0 bv := by
  have h := inv_exV hok ht1 h1.1.2 h1.2 h2
  exact ⟨h.1, ⟨_, (h2.1 88 (by decide)).trans h1.2, fun _ => pk_uLs⟩, h.2⟩
theorem rm77 (hRM : RM ad cJ cZ w cd n t cl qu en kp dl ou cp ks pt co sh vs) : ∃ fs, w 77 = .inr (4, fs) := by
  obtain ⟨⟨hs, h⟩, -⟩ := hRM
  exact ⟨_, h⟩
end INVS
theorem x_sld {p : Program} {l : Launch} {e : Env} {R : Room} {s : State} {m : MethodId} {args : Array Value} {below : List Frame} {meth : Method} {c : Code} {H : Heap} {locs : List Loc} {cells slots : Nat} {Q : State → Prop} {cc : ByteArray} {pc : Nat} {ls : Array Slot} {rest : List Value} {A : Nat → Prop} {D : va_G} {tys : List (ClassId × FieldType)} {ad : Nat → Nat} {N : Nat} {w : Nat → va_E} (hx : p.tables.exec = Jvm.exec) (hb : c.code = cc) {b L : Nat} {xs : Nat → Int32} (hX : va_X b L xs s s.heap) (hbl : b < s.heap.size) (hbA : ¬ A b) (hL : L ≤ 3072) (hw : WW D vwCl tys A s.heap ad N w s H locs) {j : Nat} (hj : j < L) (hdg : decode cc pc = .ok (.iaload, 1))
    (kk : W p l e R s m args below meth c H locs cells slots Q (F0 m (pc + 1) ls (.int (xs j) :: rest))) : W p l e R s m args below meth c H locs cells slots Q (F0 m pc ls (.int (nI j) :: .ref b :: rest)) := by
  refine va_sld hx hb hX hbl hbA hw.2.2.2 (vp_in_nI hj (by omega)) hdg ?_
  rw [nI_clamp (by omega)]
  exact kk

set_option maxHeartbeats 4000000 in
set_option maxRecDepth 100000 in
theorem lk_begin {l : Launch} {p : Program} {e : Env} {s : State} {m : MethodId} {below : List Frame} {meth : Method} {c : Code} {Q : State → Prop} {D : va_G} {cI cJ cZ cD : ClassId} {ad : Nat → Nat} {sa : Nat → Nat} {A : Nat → Prop} {H : Heap} {locs : List Loc} {cells slots : Nat} {ls : Array Slot} {b L : Nat} {xs : Nat → Int32} {w : Nat → va_E} (hC : CallFix p m c cL_law 8 s #[.ref b] wsL_law RL) (hiniL : (Cond.initialized RL).before #[.ref b] s = true) (hX : va_X b L xs s s.heap) (hbl : b < s.heap.size) (hbA : ¬ A b) (hA : ∀ q, s.heap.size ≤ q → A q) (hT : TH sa A s) (q : Nat) (hq : 6 * q + 6 ≤ L) (hL : L ≤ 3072) (hce : cells + 1 ≤ room_1.cells ∧ slots + 6 ≤ room_1.slots) (hw : WW D vwCl (tyL cI cJ cZ cD) A s.heap ad 89 w s H locs) (hl : lv_has ls 8 [(0, .ref b), (1, .ref (ad 0)), (2, .ref (ad 77)), (3, .ref (ad 88)), (4, .int (nI (6 * q)))]) (k : Nat) (hk : k ≤ 2)  {rmH rmM : Room} {mc ms : Nat} (hmc : mc ≤ 1) (hms : ms ≤ 6) {PH : (Nat → va_E) → Prop} {PG : (Nat → va_E) → (Nat → va_E) → Prop} (hH : ∀ sz, MH l yL_begin (.codeWith yL_begin cL_begin 4 (some .int) [(0, 6, 9, 13)]) rmH [.ref (ad 0), .int (xs (6 * q + 1)), .int (xs (6 * q + 2))] D (tyL cI cJ cZ cD) ad 89 w sz sa (some (.int (nI k))) PH mc ms) (hRH : rmH.cells = mc ∧ rmH.slots = ms ∧ rmH.frames + 1 ≤ room_1.frames ∧ 8 + (4 + 11) + rmH.locals ≤ room_1.locals) (h77 : ∀ u, PH u → ∃ fs, u 77 = .inr (4, fs)) (hG : ∀ u sz, PH u → MW l yX5_begin (.code yX5_begin cX5_begin 4 none) rmM [.ref (ad 77), .int (xs (6 * q + 1)), .int (xs (6 * q + 2))] D (tyL cI cJ cZ cD) ad 89 u sz none (PG u)) (hRG : RF room_1 rmM 0 0 4) (hE : ∀ u u2, PH u → PG u u2 → INVv ad cI cJ cZ cD u2 k)
    (kx : ∀ (w : Nat → va_E) (H : Heap) (locs : List Loc) (ls : Array Slot), INV ad cI cJ cZ cD w → WW D vwCl (tyL cI cJ cZ cD) A s.heap ad 89 w s H locs → lv_has ls 8 [(0, .ref b), (1, .ref (ad 0)), (2, .ref (ad 77)), (3, .ref (ad 88)), (4, .int (nI (6 * q)))] → W p l e room_1 s m #[.ref b] below meth c H locs (cells + 1) (slots + 6) Q (F0 m 1347 ls [])) : W p l e room_1 s m #[.ref b] below meth c H locs cells slots Q (F0 m 128 ls []) := by
  obtain ⟨hx, hb, hml, hown, hts⟩ := id hC
  refine lv_aload_n hx hb dL_law_128 rfl (lv_at hl 1 rfl) ?_
  refine lv_aload_n hx hb dL_law_129 rfl (lv_at hl 0 rfl) ?_
  refine lv_iload hx hb dL_law_130 (lv_at hl 4 rfl) ?_
  refine lv_iconst (v := nI 1) hx hb dL_law_132 (by decide) ?_
  refine t_iadd hx hb dL_law_133 (v := nI (6 * q + 1)) (nI_add _ _) ?_
  refine x_sld hx hb hX hbl hbA hL hw (j := 6 * q + 1) (by omega) dL_law_134 ?_
  refine lv_aload_n hx hb dL_law_135 rfl (lv_at hl 0 rfl) ?_
  refine lv_iload hx hb dL_law_136 (lv_at hl 4 rfl) ?_
  refine lv_iconst (v := nI 2) hx hb dL_law_138 (by decide) ?_
  refine t_iadd hx hb dL_law_139 (v := nI (6 * q + 2)) (nI_add _ _) ?_
  refine x_sld hx hb hX hbl hbA hL hw (j := 6 * q + 2) (by omega) dL_law_140 ?_
  refine x_callH (As := [.ref (ad 0), .int (xs (6 * q + 1)), .int (xs (6 * q + 2))]) (rest := []) hC hf_begin hiniL hw hA hT (hH _) hRH hl.1 (Nat.le_of_ble_eq_true rfl) dL_law_141 ⟨by omega, by omega⟩ rfl (fun u H locs hu hw => ?_)
  refine lv_istore (lv' := [(5, .int (nI k)), (0, .ref b), (1, .ref (ad 0)), (2, .ref (ad 77)), (3, .ref (ad 88)), (4, .int (nI (6 * q)))]) hx hb dL_law_144 hl (by decide) rfl (fun ls hl => ?_)
  refine lv_aload_n hx hb dL_law_146 rfl (lv_at hl 3 rfl) ?_
  refine lv_aload_n hx hb dL_law_147 rfl (lv_at hl 1 rfl) ?_
  refine lv_iload hx hb dL_law_148 (lv_at hl 5 rfl) ?_
  refine lv_iconst (v := nI 1) hx hb dL_law_150 (by decide) ?_
  refine t_iadd hx hb dL_law_151 (v := nI (6 * q + 1)) (nI_add _ _) ?_
  refine x_sld hx hb hX hbl hbA hL hw (j := 6 * q + 1) (by omega) dL_law_152 ?_
  refine lv_aload_n hx hb dL_law_153 rfl (lv_at hl 1 rfl) ?_
  refine lv_iload hx hb dL_law_154 (lv_at hl 5 rfl) ?_
  refine lv_iconst (v := nI 2) hx hb dL_law_156 (by decide) ?_
  refine t_iadd hx hb dL_law_157 (v := nI (6 * q + 2)) (nI_add _ _) ?_
  refine x_sld hx hb hX hbl hbA hL hw (j := 6 * q + 2) (by omega) dL_law_158 ?_
  obtain ⟨fs7, h7⟩ := h77 u hu
  refine x_callW0 (As := [.int (xs (6 * q + 1)), .int (xs (6 * q + 2))]) (rest := []) hC vf_L_88 hw hA (by decide) h7 rfl rfl (hG u _ hu) hRG hl.1 (Nat.le_of_ble_eq_true rfl) dL_law_159 ⟨by omega, by omega⟩ rfl (fun u2 H locs hu2 hw => ?_)
  obtain ⟨⟨n7, t7, cl7, qu7, en7, kp7, hs7, g7⟩, hinv⟩ := hE u u2 hu hu2
  refine lv_aload_n hx hb dL_law_162 rfl (lv_at hl 3 rfl) ?_
  refine x_callW1 (As := []) (rest := []) hC vf_L_89 hw hA (by decide) g7 rfl rfl (k5_thrown l _ _ _ _ _ _ _ _ g7) ⟨rfl, rfl, Nat.le_of_ble_eq_true rfl, Nat.le_of_ble_eq_true rfl⟩ hl.1 (Nat.le_of_ble_eq_true rfl) dL_law_163 ⟨by omega, by omega⟩ rfl (fun u3 H locs hu3 hw => ?_)
  rw [hu3] at hw
  refine lv_iload hx hb dL_law_166 (lv_at hl 0 rfl) ?_
  refine lv_icmp_eq (tgt := 173) hx hb dL_law_168 (by decide) (fun q1 => ?_) (fun q1 => absurd rfl q1)
  refine lv_goto (tgt := 1347) hx hb dL_law_173 (by decide) ?_
  refine W.widen (k := cells + 1) (n := slots + 6) (by omega) (by omega) ?_
  exact kx u2 H locs ls hinv hw (lv_sub hl [1, 2, 3, 4, 5] rfl)
set_option maxHeartbeats 4000000 in
set_option maxRecDepth 100000 in
theorem lk_deal {l : Launch} {p : Program} {e : Env} {s : State} {m : MethodId} {below : List Frame} {meth : Method} {c : Code} {Q : State → Prop} {D : va_G} {cI cJ cZ cD : ClassId} {ad : Nat → Nat} {sa : Nat → Nat} {A : Nat → Prop} {H : Heap} {locs : List Loc} {cells slots : Nat} {ls : Array Slot} {b L : Nat} {xs : Nat → Int32} {w : Nat → va_E} (hC : CallFix p m c cL_law 8 s #[.ref b] wsL_law RL) (hiniL : (Cond.initialized RL).before #[.ref b] s = true) (hX : va_X b L xs s s.heap) (hbl : b < s.heap.size) (hbA : ¬ A b) (hA : ∀ q, s.heap.size ≤ q → A q) (hT : TH sa A s) (q : Nat) (hq : 6 * q + 6 ≤ L) (hL : L ≤ 3072) (hce : cells + 1 ≤ room_1.cells ∧ slots + 6 ≤ room_1.slots) (hw : WW D vwCl (tyL cI cJ cZ cD) A s.heap ad 89 w s H locs) (hl : lv_has ls 8 [(0, .ref b), (1, .ref (ad 0)), (2, .ref (ad 77)), (3, .ref (ad 88)), (4, .int (nI (6 * q)))]) (k : Nat) (hk : k ≤ 2)  {rmH rmM : Room} {mc ms : Nat} (hmc : mc ≤ 1) (hms : ms ≤ 6) {PH : (Nat → va_E) → Prop} {PG : (Nat → va_E) → (Nat → va_E) → Prop} (hH : ∀ sz, MH l yL_deal (.codeWith yL_deal cL_deal 5 (some .int) [(0, 6, 9, 13), (0, 6, 13, 19)]) rmH [.ref (ad 0), .int (xs (6 * q + 1)), .long ((((xs (6 * q + 2)).toInt64) <<< ((nI 32).toInt64 &&& 63)) ||| (((xs (6 * q + 3)).toInt64) &&& ((4294967295))))] D (tyL cI cJ cZ cD) ad 89 w sz sa (some (.int (nI k))) PH mc ms) (hRH : rmH.cells = mc ∧ rmH.slots = ms ∧ rmH.frames + 1 ≤ room_1.frames ∧ 8 + (5 + 11) + rmH.locals ≤ room_1.locals) (h77 : ∀ u, PH u → ∃ fs, u 77 = .inr (4, fs)) (hG : ∀ u sz, PH u → MW l yX5_deal (.code yX5_deal cX5_deal 5 none) rmM [.ref (ad 77), .int (xs (6 * q + 1)), .long ((((xs (6 * q + 2)).toInt64) <<< ((nI 32).toInt64 &&& 63)) ||| (((xs (6 * q + 3)).toInt64) &&& ((4294967295))))] D (tyL cI cJ cZ cD) ad 89 u sz none (PG u)) (hRG : RF room_1 rmM 0 0 5) (hE : ∀ u u2, PH u → PG u u2 → INVv ad cI cJ cZ cD u2 k)
    (kx : ∀ (w : Nat → va_E) (H : Heap) (locs : List Loc) (ls : Array Slot), INV ad cI cJ cZ cD w → WW D vwCl (tyL cI cJ cZ cD) A s.heap ad 89 w s H locs → lv_has ls 8 [(0, .ref b), (1, .ref (ad 0)), (2, .ref (ad 77)), (3, .ref (ad 88)), (4, .int (nI (6 * q)))] → W p l e room_1 s m #[.ref b] below meth c H locs (cells + 1) (slots + 6) Q (F0 m 1347 ls [])) : W p l e room_1 s m #[.ref b] below meth c H locs cells slots Q (F0 m 176 ls []) := by
  obtain ⟨hx, hb, hml, hown, hts⟩ := id hC
  refine lv_aload_n hx hb dL_law_176 rfl (lv_at hl 1 rfl) ?_
  refine lv_aload_n hx hb dL_law_177 rfl (lv_at hl 0 rfl) ?_
  refine lv_iload hx hb dL_law_178 (lv_at hl 4 rfl) ?_
  refine lv_iconst (v := nI 1) hx hb dL_law_180 (by decide) ?_
  refine t_iadd hx hb dL_law_181 (v := nI (6 * q + 1)) (nI_add _ _) ?_
  refine x_sld hx hb hX hbl hbA hL hw (j := 6 * q + 1) (by omega) dL_law_182 ?_
  refine lv_aload_n hx hb dL_law_183 rfl (lv_at hl 0 rfl) ?_
  refine lv_iload hx hb dL_law_184 (lv_at hl 4 rfl) ?_
  refine lv_iconst (v := nI 2) hx hb dL_law_186 (by decide) ?_
  refine t_iadd hx hb dL_law_187 (v := nI (6 * q + 2)) (nI_add _ _) ?_
  refine x_sld hx hb hX hbl hbA hL hw (j := 6 * q + 2) (by omega) dL_law_188 ?_
  refine lv_i2l hx hb dL_law_189 rfl ?_
  refine lv_bipush (v := nI 32) hx hb dL_law_190 (by decide) ?_
  refine lv_lshl hx hb dL_law_192 rfl ?_
  refine lv_aload_n hx hb dL_law_193 rfl (lv_at hl 0 rfl) ?_
  refine lv_iload hx hb dL_law_194 (lv_at hl 4 rfl) ?_
  refine lv_iconst (v := nI 3) hx hb dL_law_196 (by decide) ?_
  refine t_iadd hx hb dL_law_197 (v := nI (6 * q + 3)) (nI_add _ _) ?_
  refine x_sld hx hb hX hbl hbA hL hw (j := 6 * q + 3) (by omega) dL_law_198 ?_
  refine lv_i2l hx hb dL_law_199 rfl ?_
  refine lv_ldc2 hx hb hown (hts _ ct_L_92) dL_law_200 ?_
  refine lv_land hx hb dL_law_203 ?_
  refine lv_lor hx hb dL_law_204 ?_
  refine x_callH (As := [.ref (ad 0), .int (xs (6 * q + 1)), .long ((((xs (6 * q + 2)).toInt64) <<< ((nI 32).toInt64 &&& 63)) ||| (((xs (6 * q + 3)).toInt64) &&& ((4294967295))))]) (rest := []) hC hf_deal hiniL hw hA hT (hH _) hRH hl.1 (Nat.le_of_ble_eq_true rfl) dL_law_205 ⟨by omega, by omega⟩ rfl (fun u H locs hu hw => ?_)
  refine lv_istore (lv' := [(5, .int (nI k)), (0, .ref b), (1, .ref (ad 0)), (2, .ref (ad 77)), (3, .ref (ad 88)), (4, .int (nI (6 * q)))]) hx hb dL_law_208 hl (by decide) rfl (fun ls hl => ?_)
  refine lv_aload_n hx hb dL_law_210 rfl (lv_at hl 3 rfl) ?_
  refine lv_aload_n hx hb dL_law_211 rfl (lv_at hl 1 rfl) ?_
  refine lv_iload hx hb dL_law_212 (lv_at hl 5 rfl) ?_
  refine lv_iconst (v := nI 1) hx hb dL_law_214 (by decide) ?_
  refine t_iadd hx hb dL_law_215 (v := nI (6 * q + 1)) (nI_add _ _) ?_
  refine x_sld hx hb hX hbl hbA hL hw (j := 6 * q + 1) (by omega) dL_law_216 ?_
  refine lv_aload_n hx hb dL_law_217 rfl (lv_at hl 1 rfl) ?_
  refine lv_iload hx hb dL_law_218 (lv_at hl 5 rfl) ?_
  refine lv_iconst (v := nI 2) hx hb dL_law_220 (by decide) ?_
  refine t_iadd hx hb dL_law_221 (v := nI (6 * q + 2)) (nI_add _ _) ?_
  refine x_sld hx hb hX hbl hbA hL hw (j := 6 * q + 2) (by omega) dL_law_222 ?_
  refine lv_i2l hx hb dL_law_223 rfl ?_
  refine lv_bipush (v := nI 32) hx hb dL_law_224 (by decide) ?_
  refine lv_lshl hx hb dL_law_226 rfl ?_
  refine lv_aload_n hx hb dL_law_227 rfl (lv_at hl 1 rfl) ?_
  refine lv_iload hx hb dL_law_228 (lv_at hl 5 rfl) ?_
  refine lv_iconst (v := nI 3) hx hb dL_law_230 (by decide) ?_
  refine t_iadd hx hb dL_law_231 (v := nI (6 * q + 3)) (nI_add _ _) ?_
  refine x_sld hx hb hX hbl hbA hL hw (j := 6 * q + 3) (by omega) dL_law_232 ?_
  refine lv_i2l hx hb dL_law_233 rfl ?_
  refine lv_ldc2 hx hb hown (hts _ ct_L_92) dL_law_234 ?_
  refine lv_land hx hb dL_law_237 ?_
  refine lv_lor hx hb dL_law_238 ?_
  obtain ⟨fs7, h7⟩ := h77 u hu
  refine x_callW0 (As := [.int (xs (6 * q + 1)), .long ((((xs (6 * q + 2)).toInt64) <<< ((nI 32).toInt64 &&& 63)) ||| (((xs (6 * q + 3)).toInt64) &&& ((4294967295))))]) (rest := []) hC vf_L_97 hw hA (by decide) h7 rfl rfl (hG u _ hu) hRG hl.1 (Nat.le_of_ble_eq_true rfl) dL_law_239 ⟨by omega, by omega⟩ rfl (fun u2 H locs hu2 hw => ?_)
  obtain ⟨⟨n7, t7, cl7, qu7, en7, kp7, hs7, g7⟩, hinv⟩ := hE u u2 hu hu2
  refine lv_aload_n hx hb dL_law_242 rfl (lv_at hl 3 rfl) ?_
  refine x_callW1 (As := []) (rest := []) hC vf_L_89 hw hA (by decide) g7 rfl rfl (k5_thrown l _ _ _ _ _ _ _ _ g7) ⟨rfl, rfl, Nat.le_of_ble_eq_true rfl, Nat.le_of_ble_eq_true rfl⟩ hl.1 (Nat.le_of_ble_eq_true rfl) dL_law_243 ⟨by omega, by omega⟩ rfl (fun u3 H locs hu3 hw => ?_)
  rw [hu3] at hw
  refine lv_iload hx hb dL_law_246 (lv_at hl 0 rfl) ?_
  refine lv_icmp_eq (tgt := 253) hx hb dL_law_248 (by decide) (fun q1 => ?_) (fun q1 => absurd rfl q1)
  refine lv_goto (tgt := 1347) hx hb dL_law_253 (by decide) ?_
  refine W.widen (k := cells + 1) (n := slots + 6) (by omega) (by omega) ?_
  exact kx u2 H locs ls hinv hw (lv_sub hl [1, 2, 3, 4, 5] rfl)
set_option maxHeartbeats 4000000 in
set_option maxRecDepth 100000 in
theorem lk_spoil {l : Launch} {p : Program} {e : Env} {s : State} {m : MethodId} {below : List Frame} {meth : Method} {c : Code} {Q : State → Prop} {D : va_G} {cI cJ cZ cD : ClassId} {ad : Nat → Nat} {sa : Nat → Nat} {A : Nat → Prop} {H : Heap} {locs : List Loc} {cells slots : Nat} {ls : Array Slot} {b L : Nat} {xs : Nat → Int32} {w : Nat → va_E} (hC : CallFix p m c cL_law 8 s #[.ref b] wsL_law RL) (hiniL : (Cond.initialized RL).before #[.ref b] s = true) (hX : va_X b L xs s s.heap) (hbl : b < s.heap.size) (hbA : ¬ A b) (hA : ∀ q, s.heap.size ≤ q → A q) (hT : TH sa A s) (q : Nat) (hq : 6 * q + 6 ≤ L) (hL : L ≤ 3072) (hce : cells + 1 ≤ room_1.cells ∧ slots + 6 ≤ room_1.slots) (hw : WW D vwCl (tyL cI cJ cZ cD) A s.heap ad 89 w s H locs) (hl : lv_has ls 8 [(0, .ref b), (1, .ref (ad 0)), (2, .ref (ad 77)), (3, .ref (ad 88)), (4, .int (nI (6 * q)))]) (k : Nat) (hk : k ≤ 2) (bv : Int32) {rmH rmM : Room} {mc ms : Nat} (hmc : mc ≤ 1) (hms : ms ≤ 6) {PH : (Nat → va_E) → Prop} {PG : (Nat → va_E) → (Nat → va_E) → Prop} (hH : ∀ sz, MH l yL_spoil (.codeWith yL_spoil cL_spoil 6 (some .int) [(0, 12, 15, 13), (0, 12, 19, 19)]) rmH [.ref (ad 0), .int (xs (6 * q + 1)), .int (xs (6 * q + 2)), .int (xs (6 * q + 3)), .ref (ad 88)] D (tyL cI cJ cZ cD) ad 89 w sz sa (some (.int (nI k))) PH mc ms) (hRH : rmH.cells = mc ∧ rmH.slots = ms ∧ rmH.frames + 1 ≤ room_1.frames ∧ 8 + (6 + 11) + rmH.locals ≤ room_1.locals) (h77 : ∀ u, PH u → ∃ fs, u 77 = .inr (4, fs)) (hG : ∀ u sz, PH u → MW l yX5_spoil (.code yX5_spoil cX5_spoil 6 (some .int)) rmM [.ref (ad 77), .int (xs (6 * q + 1)), .int (xs (6 * q + 2)), .int (xs (6 * q + 3))] D (tyL cI cJ cZ cD) ad 89 u sz (some (.int bv)) (PG u)) (hRG : RF room_1 rmM 0 0 6) (hE : ∀ u u2, PH u → PG u u2 → INVk ad cI cJ cZ cD u2 k bv.toInt64)
    (kx : ∀ (w : Nat → va_E) (H : Heap) (locs : List Loc) (ls : Array Slot), INV ad cI cJ cZ cD w → WW D vwCl (tyL cI cJ cZ cD) A s.heap ad 89 w s H locs → lv_has ls 8 [(0, .ref b), (1, .ref (ad 0)), (2, .ref (ad 77)), (3, .ref (ad 88)), (4, .int (nI (6 * q)))] → W p l e room_1 s m #[.ref b] below meth c H locs (cells + 1) (slots + 6) Q (F0 m 1347 ls [])) : W p l e room_1 s m #[.ref b] below meth c H locs cells slots Q (F0 m 256 ls []) := by
  obtain ⟨hx, hb, hml, hown, hts⟩ := id hC
  refine lv_aload_n hx hb dL_law_256 rfl (lv_at hl 1 rfl) ?_
  refine lv_aload_n hx hb dL_law_257 rfl (lv_at hl 0 rfl) ?_
  refine lv_iload hx hb dL_law_258 (lv_at hl 4 rfl) ?_
  refine lv_iconst (v := nI 1) hx hb dL_law_260 (by decide) ?_
  refine t_iadd hx hb dL_law_261 (v := nI (6 * q + 1)) (nI_add _ _) ?_
  refine x_sld hx hb hX hbl hbA hL hw (j := 6 * q + 1) (by omega) dL_law_262 ?_
  refine lv_aload_n hx hb dL_law_263 rfl (lv_at hl 0 rfl) ?_
  refine lv_iload hx hb dL_law_264 (lv_at hl 4 rfl) ?_
  refine lv_iconst (v := nI 2) hx hb dL_law_266 (by decide) ?_
  refine t_iadd hx hb dL_law_267 (v := nI (6 * q + 2)) (nI_add _ _) ?_
  refine x_sld hx hb hX hbl hbA hL hw (j := 6 * q + 2) (by omega) dL_law_268 ?_
  refine lv_aload_n hx hb dL_law_269 rfl (lv_at hl 0 rfl) ?_
  refine lv_iload hx hb dL_law_270 (lv_at hl 4 rfl) ?_
  refine lv_iconst (v := nI 3) hx hb dL_law_272 (by decide) ?_
  refine t_iadd hx hb dL_law_273 (v := nI (6 * q + 3)) (nI_add _ _) ?_
  refine x_sld hx hb hX hbl hbA hL hw (j := 6 * q + 3) (by omega) dL_law_274 ?_
  refine lv_aload_n hx hb dL_law_275 rfl (lv_at hl 3 rfl) ?_
  refine x_callH (As := [.ref (ad 0), .int (xs (6 * q + 1)), .int (xs (6 * q + 2)), .int (xs (6 * q + 3)), .ref (ad 88)]) (rest := []) hC hf_spoil hiniL hw hA hT (hH _) hRH hl.1 (Nat.le_of_ble_eq_true rfl) dL_law_276 ⟨by omega, by omega⟩ rfl (fun u H locs hu hw => ?_)
  refine lv_istore (lv' := [(5, .int (nI k)), (0, .ref b), (1, .ref (ad 0)), (2, .ref (ad 77)), (3, .ref (ad 88)), (4, .int (nI (6 * q)))]) hx hb dL_law_279 hl (by decide) rfl (fun ls hl => ?_)
  refine lv_aload_n hx hb dL_law_281 rfl (lv_at hl 3 rfl) ?_
  refine lv_aload_n hx hb dL_law_282 rfl (lv_at hl 1 rfl) ?_
  refine lv_iload hx hb dL_law_283 (lv_at hl 5 rfl) ?_
  refine lv_iconst (v := nI 1) hx hb dL_law_285 (by decide) ?_
  refine t_iadd hx hb dL_law_286 (v := nI (6 * q + 1)) (nI_add _ _) ?_
  refine x_sld hx hb hX hbl hbA hL hw (j := 6 * q + 1) (by omega) dL_law_287 ?_
  refine lv_aload_n hx hb dL_law_288 rfl (lv_at hl 1 rfl) ?_
  refine lv_iload hx hb dL_law_289 (lv_at hl 5 rfl) ?_
  refine lv_iconst (v := nI 2) hx hb dL_law_291 (by decide) ?_
  refine t_iadd hx hb dL_law_292 (v := nI (6 * q + 2)) (nI_add _ _) ?_
  refine x_sld hx hb hX hbl hbA hL hw (j := 6 * q + 2) (by omega) dL_law_293 ?_
  refine lv_aload_n hx hb dL_law_294 rfl (lv_at hl 1 rfl) ?_
  refine lv_iload hx hb dL_law_295 (lv_at hl 5 rfl) ?_
  refine lv_iconst (v := nI 3) hx hb dL_law_297 (by decide) ?_
  refine t_iadd hx hb dL_law_298 (v := nI (6 * q + 3)) (nI_add _ _) ?_
  refine x_sld hx hb hX hbl hbA hL hw (j := 6 * q + 3) (by omega) dL_law_299 ?_
  obtain ⟨fs7, h7⟩ := h77 u hu
  refine x_callW1 (As := [.int (xs (6 * q + 1)), .int (xs (6 * q + 2)), .int (xs (6 * q + 3))]) (rest := []) hC vf_L_101 hw hA (by decide) h7 rfl rfl (hG u _ hu) hRG hl.1 (Nat.le_of_ble_eq_true rfl) dL_law_300 ⟨by omega, by omega⟩ rfl (fun u2 H locs hu2 hw => ?_)
  obtain ⟨⟨n7, t7, cl7, qu7, en7, kp7, hs7, g7⟩, ⟨ofn, g8, hval⟩, hinv⟩ := hE u u2 hu hu2
  refine lv_istore (lv' := [(6, .int bv), (5, .int (nI k)), (0, .ref b), (1, .ref (ad 0)), (2, .ref (ad 77)), (3, .ref (ad 88)), (4, .int (nI (6 * q)))]) hx hb dL_law_303 hl (by decide) rfl (fun ls hl => ?_)
  refine lv_aload_n hx hb dL_law_305 rfl (lv_at hl 4 rfl) ?_
  refine x_callW1 (As := []) (rest := []) hC vf_L_89 hw hA (by decide) g7 rfl rfl (k5_thrown l _ _ _ _ _ _ _ _ g7) ⟨rfl, rfl, Nat.le_of_ble_eq_true rfl, Nat.le_of_ble_eq_true rfl⟩ hl.1 (Nat.le_of_ble_eq_true rfl) dL_law_306 ⟨by omega, by omega⟩ rfl (fun u3 H locs hu3 hw => ?_)
  rw [hu3] at hw
  refine lv_iload hx hb dL_law_309 (lv_at hl 1 rfl) ?_
  refine lv_icmp_eq (tgt := 316) hx hb dL_law_311 (by decide) (fun q1 => ?_) (fun q1 => absurd rfl q1)
  refine lv_iload hx hb dL_law_316 (lv_at hl 1 rfl) ?_
  refine lv_if_ne (tgt := 333) hx hb dL_law_318 (by decide) (fun q2 => ?_) (fun q2 => ?_)
  · rw [nI_z (by omega)] at q2
    refine lv_goto (tgt := 1347) hx hb dL_law_333 (by decide) ?_
    refine W.widen (k := cells + 1) (n := slots + 6) (by omega) (by omega) ?_
    exact kx u2 H locs ls hinv hw (lv_sub hl [2, 3, 4, 5, 6] rfl)
  · rw [nI_z (by omega)] at q2
    have hv0 := hval (by omega)
    refine lv_aload_n hx hb dL_law_321 rfl (lv_at hl 5 rfl) ?_
    refine lv_iconst (v := nI 0) hx hb dL_law_322 (by decide) ?_
    refine x_lald hx hb hw (by decide) 1 g8 rfl (j := 0) (by decide) (by decide) rfl dL_law_323 ?_
    refine lv_iload hx hb dL_law_324 (lv_at hl 0 rfl) ?_
    refine lv_i2l hx hb dL_law_326 rfl ?_
    refine W.lcmp hx hb dL_law_327 ?_
    refine lv_if_eq (tgt := 333) hx hb dL_law_328 (by decide) (fun q4 => ?_) (fun q4 => absurd (by rw [lg_cmp_eq, hv0]) q4)
    refine lv_goto (tgt := 1347) hx hb dL_law_333 (by decide) ?_
    refine W.widen (k := cells + 1) (n := slots + 6) (by omega) (by omega) ?_
    exact kx u2 H locs ls hinv hw (lv_sub hl [2, 3, 4, 5, 6] rfl)
set_option maxHeartbeats 4000000 in
set_option maxRecDepth 100000 in
theorem lk_commitment {l : Launch} {p : Program} {e : Env} {s : State} {m : MethodId} {below : List Frame} {meth : Method} {c : Code} {Q : State → Prop} {D : va_G} {cI cJ cZ cD : ClassId} {ad : Nat → Nat} {sa : Nat → Nat} {A : Nat → Prop} {H : Heap} {locs : List Loc} {cells slots : Nat} {ls : Array Slot} {b L : Nat} {xs : Nat → Int32} {w : Nat → va_E} (hC : CallFix p m c cL_law 8 s #[.ref b] wsL_law RL) (hiniL : (Cond.initialized RL).before #[.ref b] s = true) (hX : va_X b L xs s s.heap) (hbl : b < s.heap.size) (hbA : ¬ A b) (hA : ∀ q, s.heap.size ≤ q → A q) (hT : TH sa A s) (q : Nat) (hq : 6 * q + 6 ≤ L) (hL : L ≤ 3072) (hce : cells + 1 ≤ room_1.cells ∧ slots + 6 ≤ room_1.slots) (hw : WW D vwCl (tyL cI cJ cZ cD) A s.heap ad 89 w s H locs) (hl : lv_has ls 8 [(0, .ref b), (1, .ref (ad 0)), (2, .ref (ad 77)), (3, .ref (ad 88)), (4, .int (nI (6 * q)))]) (k : Nat) (hk : k ≤ 2) (bv : Int32) {rmH rmM : Room} {mc ms : Nat} (hmc : mc ≤ 1) (hms : ms ≤ 6) {PH : (Nat → va_E) → Prop} {PG : (Nat → va_E) → (Nat → va_E) → Prop} (hH : ∀ sz, MH l yL_commitment (.codeWith yL_commitment cL_commitment 5 (some .int) [(0, 10, 13, 13), (0, 10, 17, 19)]) rmH [.ref (ad 0), .int (xs (6 * q + 1)), .int (xs (6 * q + 2)), .ref (ad 88)] D (tyL cI cJ cZ cD) ad 89 w sz sa (some (.int (nI k))) PH mc ms) (hRH : rmH.cells = mc ∧ rmH.slots = ms ∧ rmH.frames + 1 ≤ room_1.frames ∧ 8 + (5 + 11) + rmH.locals ≤ room_1.locals) (h77 : ∀ u, PH u → ∃ fs, u 77 = .inr (4, fs)) (hG : ∀ u sz, PH u → MW l yX5_commitment (.code yX5_commitment cX5_commitment 3 (some .int)) rmM [.ref (ad 77), .int (xs (6 * q + 1)), .int (xs (6 * q + 2))] D (tyL cI cJ cZ cD) ad 89 u sz (some (.int bv)) (PG u)) (hRG : RF room_1 rmM 0 0 3) (hE : ∀ u u2, PH u → PG u u2 → INVk ad cI cJ cZ cD u2 k bv.toInt64)
    (kx : ∀ (w : Nat → va_E) (H : Heap) (locs : List Loc) (ls : Array Slot), INV ad cI cJ cZ cD w → WW D vwCl (tyL cI cJ cZ cD) A s.heap ad 89 w s H locs → lv_has ls 8 [(0, .ref b), (1, .ref (ad 0)), (2, .ref (ad 77)), (3, .ref (ad 88)), (4, .int (nI (6 * q)))] → W p l e room_1 s m #[.ref b] below meth c H locs (cells + 1) (slots + 6) Q (F0 m 1347 ls [])) : W p l e room_1 s m #[.ref b] below meth c H locs cells slots Q (F0 m 336 ls []) := by
  obtain ⟨hx, hb, hml, hown, hts⟩ := id hC
  refine lv_aload_n hx hb dL_law_336 rfl (lv_at hl 1 rfl) ?_
  refine lv_aload_n hx hb dL_law_337 rfl (lv_at hl 0 rfl) ?_
  refine lv_iload hx hb dL_law_338 (lv_at hl 4 rfl) ?_
  refine lv_iconst (v := nI 1) hx hb dL_law_340 (by decide) ?_
  refine t_iadd hx hb dL_law_341 (v := nI (6 * q + 1)) (nI_add _ _) ?_
  refine x_sld hx hb hX hbl hbA hL hw (j := 6 * q + 1) (by omega) dL_law_342 ?_
  refine lv_aload_n hx hb dL_law_343 rfl (lv_at hl 0 rfl) ?_
  refine lv_iload hx hb dL_law_344 (lv_at hl 4 rfl) ?_
  refine lv_iconst (v := nI 2) hx hb dL_law_346 (by decide) ?_
  refine t_iadd hx hb dL_law_347 (v := nI (6 * q + 2)) (nI_add _ _) ?_
  refine x_sld hx hb hX hbl hbA hL hw (j := 6 * q + 2) (by omega) dL_law_348 ?_
  refine lv_aload_n hx hb dL_law_349 rfl (lv_at hl 3 rfl) ?_
  refine x_callH (As := [.ref (ad 0), .int (xs (6 * q + 1)), .int (xs (6 * q + 2)), .ref (ad 88)]) (rest := []) hC hf_commitment hiniL hw hA hT (hH _) hRH hl.1 (Nat.le_of_ble_eq_true rfl) dL_law_350 ⟨by omega, by omega⟩ rfl (fun u H locs hu hw => ?_)
  refine lv_istore (lv' := [(5, .int (nI k)), (0, .ref b), (1, .ref (ad 0)), (2, .ref (ad 77)), (3, .ref (ad 88)), (4, .int (nI (6 * q)))]) hx hb dL_law_353 hl (by decide) rfl (fun ls hl => ?_)
  refine lv_aload_n hx hb dL_law_355 rfl (lv_at hl 3 rfl) ?_
  refine lv_aload_n hx hb dL_law_356 rfl (lv_at hl 1 rfl) ?_
  refine lv_iload hx hb dL_law_357 (lv_at hl 5 rfl) ?_
  refine lv_iconst (v := nI 1) hx hb dL_law_359 (by decide) ?_
  refine t_iadd hx hb dL_law_360 (v := nI (6 * q + 1)) (nI_add _ _) ?_
  refine x_sld hx hb hX hbl hbA hL hw (j := 6 * q + 1) (by omega) dL_law_361 ?_
  refine lv_aload_n hx hb dL_law_362 rfl (lv_at hl 1 rfl) ?_
  refine lv_iload hx hb dL_law_363 (lv_at hl 5 rfl) ?_
  refine lv_iconst (v := nI 2) hx hb dL_law_365 (by decide) ?_
  refine t_iadd hx hb dL_law_366 (v := nI (6 * q + 2)) (nI_add _ _) ?_
  refine x_sld hx hb hX hbl hbA hL hw (j := 6 * q + 2) (by omega) dL_law_367 ?_
  obtain ⟨fs7, h7⟩ := h77 u hu
  refine x_callW1 (As := [.int (xs (6 * q + 1)), .int (xs (6 * q + 2))]) (rest := []) hC vf_L_105 hw hA (by decide) h7 rfl rfl (hG u _ hu) hRG hl.1 (Nat.le_of_ble_eq_true rfl) dL_law_368 ⟨by omega, by omega⟩ rfl (fun u2 H locs hu2 hw => ?_)
  obtain ⟨⟨n7, t7, cl7, qu7, en7, kp7, hs7, g7⟩, ⟨ofn, g8, hval⟩, hinv⟩ := hE u u2 hu hu2
  refine lv_istore (lv' := [(6, .int bv), (5, .int (nI k)), (0, .ref b), (1, .ref (ad 0)), (2, .ref (ad 77)), (3, .ref (ad 88)), (4, .int (nI (6 * q)))]) hx hb dL_law_371 hl (by decide) rfl (fun ls hl => ?_)
  refine lv_aload_n hx hb dL_law_373 rfl (lv_at hl 4 rfl) ?_
  refine x_callW1 (As := []) (rest := []) hC vf_L_89 hw hA (by decide) g7 rfl rfl (k5_thrown l _ _ _ _ _ _ _ _ g7) ⟨rfl, rfl, Nat.le_of_ble_eq_true rfl, Nat.le_of_ble_eq_true rfl⟩ hl.1 (Nat.le_of_ble_eq_true rfl) dL_law_374 ⟨by omega, by omega⟩ rfl (fun u3 H locs hu3 hw => ?_)
  rw [hu3] at hw
  refine lv_iload hx hb dL_law_377 (lv_at hl 1 rfl) ?_
  refine lv_icmp_eq (tgt := 384) hx hb dL_law_379 (by decide) (fun q1 => ?_) (fun q1 => absurd rfl q1)
  refine lv_iload hx hb dL_law_384 (lv_at hl 1 rfl) ?_
  refine lv_if_ne (tgt := 401) hx hb dL_law_386 (by decide) (fun q2 => ?_) (fun q2 => ?_)
  · rw [nI_z (by omega)] at q2
    refine lv_goto (tgt := 1347) hx hb dL_law_401 (by decide) ?_
    refine W.widen (k := cells + 1) (n := slots + 6) (by omega) (by omega) ?_
    exact kx u2 H locs ls hinv hw (lv_sub hl [2, 3, 4, 5, 6] rfl)
  · rw [nI_z (by omega)] at q2
    have hv0 := hval (by omega)
    refine lv_aload_n hx hb dL_law_389 rfl (lv_at hl 5 rfl) ?_
    refine lv_iconst (v := nI 0) hx hb dL_law_390 (by decide) ?_
    refine x_lald hx hb hw (by decide) 1 g8 rfl (j := 0) (by decide) (by decide) rfl dL_law_391 ?_
    refine lv_iload hx hb dL_law_392 (lv_at hl 0 rfl) ?_
    refine lv_i2l hx hb dL_law_394 rfl ?_
    refine W.lcmp hx hb dL_law_395 ?_
    refine lv_if_eq (tgt := 401) hx hb dL_law_396 (by decide) (fun q4 => ?_) (fun q4 => absurd (by rw [lg_cmp_eq, hv0]) q4)
    refine lv_goto (tgt := 1347) hx hb dL_law_401 (by decide) ?_
    refine W.widen (k := cells + 1) (n := slots + 6) (by omega) (by omega) ?_
    exact kx u2 H locs ls hinv hw (lv_sub hl [2, 3, 4, 5, 6] rfl)
set_option maxHeartbeats 4000000 in
set_option maxRecDepth 100000 in
theorem lk_share {l : Launch} {p : Program} {e : Env} {s : State} {m : MethodId} {below : List Frame} {meth : Method} {c : Code} {Q : State → Prop} {D : va_G} {cI cJ cZ cD : ClassId} {ad : Nat → Nat} {sa : Nat → Nat} {A : Nat → Prop} {H : Heap} {locs : List Loc} {cells slots : Nat} {ls : Array Slot} {b L : Nat} {xs : Nat → Int32} {w : Nat → va_E} (hC : CallFix p m c cL_law 8 s #[.ref b] wsL_law RL) (hiniL : (Cond.initialized RL).before #[.ref b] s = true) (hX : va_X b L xs s s.heap) (hbl : b < s.heap.size) (hbA : ¬ A b) (hA : ∀ q, s.heap.size ≤ q → A q) (hT : TH sa A s) (q : Nat) (hq : 6 * q + 6 ≤ L) (hL : L ≤ 3072) (hce : cells + 1 ≤ room_1.cells ∧ slots + 6 ≤ room_1.slots) (hw : WW D vwCl (tyL cI cJ cZ cD) A s.heap ad 89 w s H locs) (hl : lv_has ls 8 [(0, .ref b), (1, .ref (ad 0)), (2, .ref (ad 77)), (3, .ref (ad 88)), (4, .int (nI (6 * q)))]) (k : Nat) (hk : k ≤ 2) (bv : Int32) {rmH rmM : Room} {mc ms : Nat} (hmc : mc ≤ 1) (hms : ms ≤ 6) {PH : (Nat → va_E) → Prop} {PG : (Nat → va_E) → (Nat → va_E) → Prop} (hH : ∀ sz, MH l yL_share (.codeWith yL_share cL_share 5 (some .int) [(0, 10, 13, 13), (0, 10, 17, 19)]) rmH [.ref (ad 0), .int (xs (6 * q + 1)), .int (xs (6 * q + 2)), .ref (ad 88)] D (tyL cI cJ cZ cD) ad 89 w sz sa (some (.int (nI k))) PH mc ms) (hRH : rmH.cells = mc ∧ rmH.slots = ms ∧ rmH.frames + 1 ≤ room_1.frames ∧ 8 + (5 + 11) + rmH.locals ≤ room_1.locals) (h77 : ∀ u, PH u → ∃ fs, u 77 = .inr (4, fs)) (hG : ∀ u sz, PH u → MW l yX5_share (.code yX5_share cX5_share 3 (some .int)) rmM [.ref (ad 77), .int (xs (6 * q + 1)), .int (xs (6 * q + 2))] D (tyL cI cJ cZ cD) ad 89 u sz (some (.int bv)) (PG u)) (hRG : RF room_1 rmM 0 0 3) (hE : ∀ u u2, PH u → PG u u2 → INVk ad cI cJ cZ cD u2 k bv.toInt64)
    (kx : ∀ (w : Nat → va_E) (H : Heap) (locs : List Loc) (ls : Array Slot), INV ad cI cJ cZ cD w → WW D vwCl (tyL cI cJ cZ cD) A s.heap ad 89 w s H locs → lv_has ls 8 [(0, .ref b), (1, .ref (ad 0)), (2, .ref (ad 77)), (3, .ref (ad 88)), (4, .int (nI (6 * q)))] → W p l e room_1 s m #[.ref b] below meth c H locs (cells + 1) (slots + 6) Q (F0 m 1347 ls [])) : W p l e room_1 s m #[.ref b] below meth c H locs cells slots Q (F0 m 404 ls []) := by
  obtain ⟨hx, hb, hml, hown, hts⟩ := id hC
  refine lv_aload_n hx hb dL_law_404 rfl (lv_at hl 1 rfl) ?_
  refine lv_aload_n hx hb dL_law_405 rfl (lv_at hl 0 rfl) ?_
  refine lv_iload hx hb dL_law_406 (lv_at hl 4 rfl) ?_
  refine lv_iconst (v := nI 1) hx hb dL_law_408 (by decide) ?_
  refine t_iadd hx hb dL_law_409 (v := nI (6 * q + 1)) (nI_add _ _) ?_
  refine x_sld hx hb hX hbl hbA hL hw (j := 6 * q + 1) (by omega) dL_law_410 ?_
  refine lv_aload_n hx hb dL_law_411 rfl (lv_at hl 0 rfl) ?_
  refine lv_iload hx hb dL_law_412 (lv_at hl 4 rfl) ?_
  refine lv_iconst (v := nI 2) hx hb dL_law_414 (by decide) ?_
  refine t_iadd hx hb dL_law_415 (v := nI (6 * q + 2)) (nI_add _ _) ?_
  refine x_sld hx hb hX hbl hbA hL hw (j := 6 * q + 2) (by omega) dL_law_416 ?_
  refine lv_aload_n hx hb dL_law_417 rfl (lv_at hl 3 rfl) ?_
  refine x_callH (As := [.ref (ad 0), .int (xs (6 * q + 1)), .int (xs (6 * q + 2)), .ref (ad 88)]) (rest := []) hC hf_share hiniL hw hA hT (hH _) hRH hl.1 (Nat.le_of_ble_eq_true rfl) dL_law_418 ⟨by omega, by omega⟩ rfl (fun u H locs hu hw => ?_)
  refine lv_istore (lv' := [(5, .int (nI k)), (0, .ref b), (1, .ref (ad 0)), (2, .ref (ad 77)), (3, .ref (ad 88)), (4, .int (nI (6 * q)))]) hx hb dL_law_421 hl (by decide) rfl (fun ls hl => ?_)
  refine lv_aload_n hx hb dL_law_423 rfl (lv_at hl 3 rfl) ?_
  refine lv_aload_n hx hb dL_law_424 rfl (lv_at hl 1 rfl) ?_
  refine lv_iload hx hb dL_law_425 (lv_at hl 5 rfl) ?_
  refine lv_iconst (v := nI 1) hx hb dL_law_427 (by decide) ?_
  refine t_iadd hx hb dL_law_428 (v := nI (6 * q + 1)) (nI_add _ _) ?_
  refine x_sld hx hb hX hbl hbA hL hw (j := 6 * q + 1) (by omega) dL_law_429 ?_
  refine lv_aload_n hx hb dL_law_430 rfl (lv_at hl 1 rfl) ?_
  refine lv_iload hx hb dL_law_431 (lv_at hl 5 rfl) ?_
  refine lv_iconst (v := nI 2) hx hb dL_law_433 (by decide) ?_
  refine t_iadd hx hb dL_law_434 (v := nI (6 * q + 2)) (nI_add _ _) ?_
  refine x_sld hx hb hX hbl hbA hL hw (j := 6 * q + 2) (by omega) dL_law_435 ?_
  obtain ⟨fs7, h7⟩ := h77 u hu
  refine x_callW1 (As := [.int (xs (6 * q + 1)), .int (xs (6 * q + 2))]) (rest := []) hC vf_L_108 hw hA (by decide) h7 rfl rfl (hG u _ hu) hRG hl.1 (Nat.le_of_ble_eq_true rfl) dL_law_436 ⟨by omega, by omega⟩ rfl (fun u2 H locs hu2 hw => ?_)
  obtain ⟨⟨n7, t7, cl7, qu7, en7, kp7, hs7, g7⟩, ⟨ofn, g8, hval⟩, hinv⟩ := hE u u2 hu hu2
  refine lv_istore (lv' := [(6, .int bv), (5, .int (nI k)), (0, .ref b), (1, .ref (ad 0)), (2, .ref (ad 77)), (3, .ref (ad 88)), (4, .int (nI (6 * q)))]) hx hb dL_law_439 hl (by decide) rfl (fun ls hl => ?_)
  refine lv_aload_n hx hb dL_law_441 rfl (lv_at hl 4 rfl) ?_
  refine x_callW1 (As := []) (rest := []) hC vf_L_89 hw hA (by decide) g7 rfl rfl (k5_thrown l _ _ _ _ _ _ _ _ g7) ⟨rfl, rfl, Nat.le_of_ble_eq_true rfl, Nat.le_of_ble_eq_true rfl⟩ hl.1 (Nat.le_of_ble_eq_true rfl) dL_law_442 ⟨by omega, by omega⟩ rfl (fun u3 H locs hu3 hw => ?_)
  rw [hu3] at hw
  refine lv_iload hx hb dL_law_445 (lv_at hl 1 rfl) ?_
  refine lv_icmp_eq (tgt := 452) hx hb dL_law_447 (by decide) (fun q1 => ?_) (fun q1 => absurd rfl q1)
  refine lv_iload hx hb dL_law_452 (lv_at hl 1 rfl) ?_
  refine lv_if_ne (tgt := 469) hx hb dL_law_454 (by decide) (fun q2 => ?_) (fun q2 => ?_)
  · rw [nI_z (by omega)] at q2
    refine lv_goto (tgt := 1347) hx hb dL_law_469 (by decide) ?_
    refine W.widen (k := cells + 1) (n := slots + 6) (by omega) (by omega) ?_
    exact kx u2 H locs ls hinv hw (lv_sub hl [2, 3, 4, 5, 6] rfl)
  · rw [nI_z (by omega)] at q2
    have hv0 := hval (by omega)
    refine lv_aload_n hx hb dL_law_457 rfl (lv_at hl 5 rfl) ?_
    refine lv_iconst (v := nI 0) hx hb dL_law_458 (by decide) ?_
    refine x_lald hx hb hw (by decide) 1 g8 rfl (j := 0) (by decide) (by decide) rfl dL_law_459 ?_
    refine lv_iload hx hb dL_law_460 (lv_at hl 0 rfl) ?_
    refine lv_i2l hx hb dL_law_462 rfl ?_
    refine W.lcmp hx hb dL_law_463 ?_
    refine lv_if_eq (tgt := 469) hx hb dL_law_464 (by decide) (fun q4 => ?_) (fun q4 => absurd (by rw [lg_cmp_eq, hv0]) q4)
    refine lv_goto (tgt := 1347) hx hb dL_law_469 (by decide) ?_
    refine W.widen (k := cells + 1) (n := slots + 6) (by omega) (by omega) ?_
    exact kx u2 H locs ls hinv hw (lv_sub hl [2, 3, 4, 5, 6] rfl)
set_option maxHeartbeats 4000000 in
set_option maxRecDepth 100000 in
theorem lk_isRight {l : Launch} {p : Program} {e : Env} {s : State} {m : MethodId} {below : List Frame} {meth : Method} {c : Code} {Q : State → Prop} {D : va_G} {cI cJ cZ cD : ClassId} {ad : Nat → Nat} {sa : Nat → Nat} {A : Nat → Prop} {H : Heap} {locs : List Loc} {cells slots : Nat} {ls : Array Slot} {b L : Nat} {xs : Nat → Int32} {w : Nat → va_E} (hC : CallFix p m c cL_law 8 s #[.ref b] wsL_law RL) (hiniL : (Cond.initialized RL).before #[.ref b] s = true) (hX : va_X b L xs s s.heap) (hbl : b < s.heap.size) (hbA : ¬ A b) (hA : ∀ q, s.heap.size ≤ q → A q) (hT : TH sa A s) (q : Nat) (hq : 6 * q + 6 ≤ L) (hL : L ≤ 3072) (hce : cells + 1 ≤ room_1.cells ∧ slots + 6 ≤ room_1.slots) (hw : WW D vwCl (tyL cI cJ cZ cD) A s.heap ad 89 w s H locs) (hl : lv_has ls 8 [(0, .ref b), (1, .ref (ad 0)), (2, .ref (ad 77)), (3, .ref (ad 88)), (4, .int (nI (6 * q)))]) (k : Nat) (hk : k ≤ 2) (bn : Nat) (hbn : bn ≤ 1) {rmH rmM : Room} {mc ms : Nat} (hmc : mc ≤ 1) (hms : ms ≤ 6) {PH : (Nat → va_E) → Prop} {PG : (Nat → va_E) → (Nat → va_E) → Prop} (hH : ∀ sz, MH l yL_isRight (.codeWith yL_isRight cL_isRight 6 (some .int) [(0, 19, 22, 13), (0, 19, 26, 19)]) rmH [.ref (ad 0), .int (xs (6 * q + 1)), .int (xs (6 * q + 2)), .int (xs (6 * q + 3)), .ref (ad 88)] D (tyL cI cJ cZ cD) ad 89 w sz sa (some (.int (nI k))) PH mc ms) (hRH : rmH.cells = mc ∧ rmH.slots = ms ∧ rmH.frames + 1 ≤ room_1.frames ∧ 8 + (6 + 11) + rmH.locals ≤ room_1.locals) (h77 : ∀ u, PH u → ∃ fs, u 77 = .inr (4, fs)) (hG : ∀ u sz, PH u → MW l yX5_isRight (.code yX5_isRight cX5_isRight 5 (some .boolean)) rmM [.ref (ad 77), .int (xs (6 * q + 1)), .int (xs (6 * q + 2)), .int (xs (6 * q + 3))] D (tyL cI cJ cZ cD) ad 89 u sz (some (.int (nI bn))) (PG u)) (hRG : RF room_1 rmM 0 0 5) (hE : ∀ u u2, PH u → PG u u2 → INVk ad cI cJ cZ cD u2 k (lN bn))
    (kx : ∀ (w : Nat → va_E) (H : Heap) (locs : List Loc) (ls : Array Slot), INV ad cI cJ cZ cD w → WW D vwCl (tyL cI cJ cZ cD) A s.heap ad 89 w s H locs → lv_has ls 8 [(0, .ref b), (1, .ref (ad 0)), (2, .ref (ad 77)), (3, .ref (ad 88)), (4, .int (nI (6 * q)))] → W p l e room_1 s m #[.ref b] below meth c H locs (cells + 1) (slots + 6) Q (F0 m 1347 ls [])) : W p l e room_1 s m #[.ref b] below meth c H locs cells slots Q (F0 m 472 ls []) := by
  obtain ⟨hx, hb, hml, hown, hts⟩ := id hC
  refine lv_aload_n hx hb dL_law_472 rfl (lv_at hl 1 rfl) ?_
  refine lv_aload_n hx hb dL_law_473 rfl (lv_at hl 0 rfl) ?_
  refine lv_iload hx hb dL_law_474 (lv_at hl 4 rfl) ?_
  refine lv_iconst (v := nI 1) hx hb dL_law_476 (by decide) ?_
  refine t_iadd hx hb dL_law_477 (v := nI (6 * q + 1)) (nI_add _ _) ?_
  refine x_sld hx hb hX hbl hbA hL hw (j := 6 * q + 1) (by omega) dL_law_478 ?_
  refine lv_aload_n hx hb dL_law_479 rfl (lv_at hl 0 rfl) ?_
  refine lv_iload hx hb dL_law_480 (lv_at hl 4 rfl) ?_
  refine lv_iconst (v := nI 2) hx hb dL_law_482 (by decide) ?_
  refine t_iadd hx hb dL_law_483 (v := nI (6 * q + 2)) (nI_add _ _) ?_
  refine x_sld hx hb hX hbl hbA hL hw (j := 6 * q + 2) (by omega) dL_law_484 ?_
  refine lv_aload_n hx hb dL_law_485 rfl (lv_at hl 0 rfl) ?_
  refine lv_iload hx hb dL_law_486 (lv_at hl 4 rfl) ?_
  refine lv_iconst (v := nI 3) hx hb dL_law_488 (by decide) ?_
  refine t_iadd hx hb dL_law_489 (v := nI (6 * q + 3)) (nI_add _ _) ?_
  refine x_sld hx hb hX hbl hbA hL hw (j := 6 * q + 3) (by omega) dL_law_490 ?_
  refine lv_aload_n hx hb dL_law_491 rfl (lv_at hl 3 rfl) ?_
  refine x_callH (As := [.ref (ad 0), .int (xs (6 * q + 1)), .int (xs (6 * q + 2)), .int (xs (6 * q + 3)), .ref (ad 88)]) (rest := []) hC hf_isRight hiniL hw hA hT (hH _) hRH hl.1 (Nat.le_of_ble_eq_true rfl) dL_law_492 ⟨by omega, by omega⟩ rfl (fun u H locs hu hw => ?_)
  refine lv_istore (lv' := [(5, .int (nI k)), (0, .ref b), (1, .ref (ad 0)), (2, .ref (ad 77)), (3, .ref (ad 88)), (4, .int (nI (6 * q)))]) hx hb dL_law_495 hl (by decide) rfl (fun ls hl => ?_)
  refine lv_aload_n hx hb dL_law_497 rfl (lv_at hl 3 rfl) ?_
  refine lv_aload_n hx hb dL_law_498 rfl (lv_at hl 1 rfl) ?_
  refine lv_iload hx hb dL_law_499 (lv_at hl 5 rfl) ?_
  refine lv_iconst (v := nI 1) hx hb dL_law_501 (by decide) ?_
  refine t_iadd hx hb dL_law_502 (v := nI (6 * q + 1)) (nI_add _ _) ?_
  refine x_sld hx hb hX hbl hbA hL hw (j := 6 * q + 1) (by omega) dL_law_503 ?_
  refine lv_aload_n hx hb dL_law_504 rfl (lv_at hl 1 rfl) ?_
  refine lv_iload hx hb dL_law_505 (lv_at hl 5 rfl) ?_
  refine lv_iconst (v := nI 2) hx hb dL_law_507 (by decide) ?_
  refine t_iadd hx hb dL_law_508 (v := nI (6 * q + 2)) (nI_add _ _) ?_
  refine x_sld hx hb hX hbl hbA hL hw (j := 6 * q + 2) (by omega) dL_law_509 ?_
  refine lv_aload_n hx hb dL_law_510 rfl (lv_at hl 1 rfl) ?_
  refine lv_iload hx hb dL_law_511 (lv_at hl 5 rfl) ?_
  refine lv_iconst (v := nI 3) hx hb dL_law_513 (by decide) ?_
  refine t_iadd hx hb dL_law_514 (v := nI (6 * q + 3)) (nI_add _ _) ?_
  refine x_sld hx hb hX hbl hbA hL hw (j := 6 * q + 3) (by omega) dL_law_515 ?_
  obtain ⟨fs7, h7⟩ := h77 u hu
  refine x_callW1 (As := [.int (xs (6 * q + 1)), .int (xs (6 * q + 2)), .int (xs (6 * q + 3))]) (rest := []) hC vf_L_111 hw hA (by decide) h7 rfl rfl (hG u _ hu) hRG hl.1 (Nat.le_of_ble_eq_true rfl) dL_law_516 ⟨by omega, by omega⟩ rfl (fun u2 H locs hu2 hw => ?_)
  obtain ⟨⟨n7, t7, cl7, qu7, en7, kp7, hs7, g7⟩, ⟨ofn, g8, hval⟩, hinv⟩ := hE u u2 hu hu2
  refine lv_istore (lv' := [(6, .int (nI bn)), (5, .int (nI k)), (0, .ref b), (1, .ref (ad 0)), (2, .ref (ad 77)), (3, .ref (ad 88)), (4, .int (nI (6 * q)))]) hx hb dL_law_519 hl (by decide) rfl (fun ls hl => ?_)
  refine lv_aload_n hx hb dL_law_521 rfl (lv_at hl 4 rfl) ?_
  refine x_callW1 (As := []) (rest := []) hC vf_L_89 hw hA (by decide) g7 rfl rfl (k5_thrown l _ _ _ _ _ _ _ _ g7) ⟨rfl, rfl, Nat.le_of_ble_eq_true rfl, Nat.le_of_ble_eq_true rfl⟩ hl.1 (Nat.le_of_ble_eq_true rfl) dL_law_522 ⟨by omega, by omega⟩ rfl (fun u3 H locs hu3 hw => ?_)
  rw [hu3] at hw
  refine lv_iload hx hb dL_law_525 (lv_at hl 1 rfl) ?_
  refine lv_icmp_eq (tgt := 532) hx hb dL_law_527 (by decide) (fun q1 => ?_) (fun q1 => absurd rfl q1)
  refine lv_iload hx hb dL_law_532 (lv_at hl 1 rfl) ?_
  refine lv_if_ne (tgt := 556) hx hb dL_law_534 (by decide) (fun q2 => ?_) (fun q2 => ?_)
  · rw [nI_z (by omega)] at q2
    refine lv_goto (tgt := 1347) hx hb dL_law_556 (by decide) ?_
    refine W.widen (k := cells + 1) (n := slots + 6) (by omega) (by omega) ?_
    exact kx u2 H locs ls hinv hw (lv_sub hl [2, 3, 4, 5, 6] rfl)
  · rw [nI_z (by omega)] at q2
    have hv0 := hval (by omega)
    refine lv_aload_n hx hb dL_law_537 rfl (lv_at hl 5 rfl) ?_
    refine lv_iconst (v := nI 0) hx hb dL_law_538 (by decide) ?_
    refine x_lald hx hb hw (by decide) 1 g8 rfl (j := 0) (by decide) (by decide) rfl dL_law_539 ?_
    refine lv_iload hx hb dL_law_540 (lv_at hl 0 rfl) ?_
    refine lv_if_eq (tgt := 549) hx hb dL_law_542 (by decide) (fun q3 => ?_) (fun q3 => ?_)
    · rw [nI_z (by omega)] at q3
      have hbv : bn = 0 := by omega
      refine lv_lconst (v := lN 0) hx hb dL_law_549 (by decide) ?_
      refine W.lcmp hx hb dL_law_550 ?_
      refine lv_if_eq (tgt := 556) hx hb dL_law_551 (by decide) (fun q4 => ?_) (fun q4 => absurd (by rw [lg_cmp_eq, hv0, hbv]) q4)
      refine lv_goto (tgt := 1347) hx hb dL_law_556 (by decide) ?_
      refine W.widen (k := cells + 1) (n := slots + 6) (by omega) (by omega) ?_
      exact kx u2 H locs ls hinv hw (lv_sub hl [2, 3, 4, 5, 6] rfl)
    · rw [nI_z (by omega)] at q3
      have hbv : bn = 1 := by omega
      refine lv_lconst (v := lN 1) hx hb dL_law_545 (by decide) ?_
      refine lv_goto (tgt := 550) hx hb dL_law_546 (by decide) ?_
      refine W.lcmp hx hb dL_law_550 ?_
      refine lv_if_eq (tgt := 556) hx hb dL_law_551 (by decide) (fun q4 => ?_) (fun q4 => absurd (by rw [lg_cmp_eq, hv0, hbv]) q4)
      refine lv_goto (tgt := 1347) hx hb dL_law_556 (by decide) ?_
      refine W.widen (k := cells + 1) (n := slots + 6) (by omega) (by omega) ?_
      exact kx u2 H locs ls hinv hw (lv_sub hl [2, 3, 4, 5, 6] rfl)
set_option maxHeartbeats 4000000 in
set_option maxRecDepth 100000 in
theorem lk_complain {l : Launch} {p : Program} {e : Env} {s : State} {m : MethodId} {below : List Frame} {meth : Method} {c : Code} {Q : State → Prop} {D : va_G} {cI cJ cZ cD : ClassId} {ad : Nat → Nat} {sa : Nat → Nat} {A : Nat → Prop} {H : Heap} {locs : List Loc} {cells slots : Nat} {ls : Array Slot} {b L : Nat} {xs : Nat → Int32} {w : Nat → va_E} (hC : CallFix p m c cL_law 8 s #[.ref b] wsL_law RL) (hiniL : (Cond.initialized RL).before #[.ref b] s = true) (hX : va_X b L xs s s.heap) (hbl : b < s.heap.size) (hbA : ¬ A b) (hA : ∀ q, s.heap.size ≤ q → A q) (hT : TH sa A s) (q : Nat) (hq : 6 * q + 6 ≤ L) (hL : L ≤ 3072) (hce : cells + 1 ≤ room_1.cells ∧ slots + 6 ≤ room_1.slots) (hw : WW D vwCl (tyL cI cJ cZ cD) A s.heap ad 89 w s H locs) (hl : lv_has ls 8 [(0, .ref b), (1, .ref (ad 0)), (2, .ref (ad 77)), (3, .ref (ad 88)), (4, .int (nI (6 * q)))]) (k : Nat) (hk : k ≤ 2) (bv : Int32) {rmH rmM : Room} {mc ms : Nat} (hmc : mc ≤ 1) (hms : ms ≤ 6) {PH : (Nat → va_E) → Prop} {PG : (Nat → va_E) → (Nat → va_E) → Prop} (hH : ∀ sz, MH l yL_complain (.codeWith yL_complain cL_complain 3 (some .int) [(0, 8, 11, 19)]) rmH [.ref (ad 0), .ref (ad 88)] D (tyL cI cJ cZ cD) ad 89 w sz sa (some (.int (nI k))) PH mc ms) (hRH : rmH.cells = mc ∧ rmH.slots = ms ∧ rmH.frames + 1 ≤ room_1.frames ∧ 8 + (3 + 11) + rmH.locals ≤ room_1.locals) (h77 : ∀ u, PH u → ∃ fs, u 77 = .inr (4, fs)) (hG : ∀ u sz, PH u → MW l yX5_complain (.code yX5_complain cX5_complain 3 (some .int)) rmM [.ref (ad 77)] D (tyL cI cJ cZ cD) ad 89 u sz (some (.int bv)) (PG u)) (hRG : RF room_1 rmM 0 0 3) (hE : ∀ u u2, PH u → PG u u2 → INVk ad cI cJ cZ cD u2 k bv.toInt64)
    (kx : ∀ (w : Nat → va_E) (H : Heap) (locs : List Loc) (ls : Array Slot), INV ad cI cJ cZ cD w → WW D vwCl (tyL cI cJ cZ cD) A s.heap ad 89 w s H locs → lv_has ls 8 [(0, .ref b), (1, .ref (ad 0)), (2, .ref (ad 77)), (3, .ref (ad 88)), (4, .int (nI (6 * q)))] → W p l e room_1 s m #[.ref b] below meth c H locs (cells + 1) (slots + 6) Q (F0 m 1347 ls [])) : W p l e room_1 s m #[.ref b] below meth c H locs cells slots Q (F0 m 559 ls []) := by
  obtain ⟨hx, hb, hml, hown, hts⟩ := id hC
  refine lv_aload_n hx hb dL_law_559 rfl (lv_at hl 1 rfl) ?_
  refine lv_aload_n hx hb dL_law_560 rfl (lv_at hl 3 rfl) ?_
  refine x_callH (As := [.ref (ad 0), .ref (ad 88)]) (rest := []) hC hf_complain hiniL hw hA hT (hH _) hRH hl.1 (Nat.le_of_ble_eq_true rfl) dL_law_561 ⟨by omega, by omega⟩ rfl (fun u H locs hu hw => ?_)
  refine lv_istore (lv' := [(5, .int (nI k)), (0, .ref b), (1, .ref (ad 0)), (2, .ref (ad 77)), (3, .ref (ad 88)), (4, .int (nI (6 * q)))]) hx hb dL_law_564 hl (by decide) rfl (fun ls hl => ?_)
  refine lv_aload_n hx hb dL_law_566 rfl (lv_at hl 3 rfl) ?_
  obtain ⟨fs7, h7⟩ := h77 u hu
  refine x_callW1 (As := []) (rest := []) hC vf_L_115 hw hA (by decide) h7 rfl rfl (hG u _ hu) hRG hl.1 (Nat.le_of_ble_eq_true rfl) dL_law_567 ⟨by omega, by omega⟩ rfl (fun u2 H locs hu2 hw => ?_)
  obtain ⟨⟨n7, t7, cl7, qu7, en7, kp7, hs7, g7⟩, ⟨ofn, g8, hval⟩, hinv⟩ := hE u u2 hu hu2
  refine lv_istore (lv' := [(6, .int bv), (5, .int (nI k)), (0, .ref b), (1, .ref (ad 0)), (2, .ref (ad 77)), (3, .ref (ad 88)), (4, .int (nI (6 * q)))]) hx hb dL_law_570 hl (by decide) rfl (fun ls hl => ?_)
  refine lv_aload_n hx hb dL_law_572 rfl (lv_at hl 4 rfl) ?_
  refine x_callW1 (As := []) (rest := []) hC vf_L_89 hw hA (by decide) g7 rfl rfl (k5_thrown l _ _ _ _ _ _ _ _ g7) ⟨rfl, rfl, Nat.le_of_ble_eq_true rfl, Nat.le_of_ble_eq_true rfl⟩ hl.1 (Nat.le_of_ble_eq_true rfl) dL_law_573 ⟨by omega, by omega⟩ rfl (fun u3 H locs hu3 hw => ?_)
  rw [hu3] at hw
  refine lv_iload hx hb dL_law_576 (lv_at hl 1 rfl) ?_
  refine lv_icmp_eq (tgt := 583) hx hb dL_law_578 (by decide) (fun q1 => ?_) (fun q1 => absurd rfl q1)
  refine lv_iload hx hb dL_law_583 (lv_at hl 1 rfl) ?_
  refine lv_if_ne (tgt := 600) hx hb dL_law_585 (by decide) (fun q2 => ?_) (fun q2 => ?_)
  · rw [nI_z (by omega)] at q2
    refine lv_goto (tgt := 1347) hx hb dL_law_600 (by decide) ?_
    refine W.widen (k := cells + 1) (n := slots + 6) (by omega) (by omega) ?_
    exact kx u2 H locs ls hinv hw (lv_sub hl [2, 3, 4, 5, 6] rfl)
  · rw [nI_z (by omega)] at q2
    have hv0 := hval (by omega)
    refine lv_aload_n hx hb dL_law_588 rfl (lv_at hl 5 rfl) ?_
    refine lv_iconst (v := nI 0) hx hb dL_law_589 (by decide) ?_
    refine x_lald hx hb hw (by decide) 1 g8 rfl (j := 0) (by decide) (by decide) rfl dL_law_590 ?_
    refine lv_iload hx hb dL_law_591 (lv_at hl 0 rfl) ?_
    refine lv_i2l hx hb dL_law_593 rfl ?_
    refine W.lcmp hx hb dL_law_594 ?_
    refine lv_if_eq (tgt := 600) hx hb dL_law_595 (by decide) (fun q4 => ?_) (fun q4 => absurd (by rw [lg_cmp_eq, hv0]) q4)
    refine lv_goto (tgt := 1347) hx hb dL_law_600 (by decide) ?_
    refine W.widen (k := cells + 1) (n := slots + 6) (by omega) (by omega) ?_
    exact kx u2 H locs ls hinv hw (lv_sub hl [2, 3, 4, 5, 6] rfl)
set_option maxHeartbeats 4000000 in
set_option maxRecDepth 100000 in
theorem lk_answer {l : Launch} {p : Program} {e : Env} {s : State} {m : MethodId} {below : List Frame} {meth : Method} {c : Code} {Q : State → Prop} {D : va_G} {cI cJ cZ cD : ClassId} {ad : Nat → Nat} {sa : Nat → Nat} {A : Nat → Prop} {H : Heap} {locs : List Loc} {cells slots : Nat} {ls : Array Slot} {b L : Nat} {xs : Nat → Int32} {w : Nat → va_E} (hC : CallFix p m c cL_law 8 s #[.ref b] wsL_law RL) (hiniL : (Cond.initialized RL).before #[.ref b] s = true) (hX : va_X b L xs s s.heap) (hbl : b < s.heap.size) (hbA : ¬ A b) (hA : ∀ q, s.heap.size ≤ q → A q) (hT : TH sa A s) (q : Nat) (hq : 6 * q + 6 ≤ L) (hL : L ≤ 3072) (hce : cells + 1 ≤ room_1.cells ∧ slots + 6 ≤ room_1.slots) (hw : WW D vwCl (tyL cI cJ cZ cD) A s.heap ad 89 w s H locs) (hl : lv_has ls 8 [(0, .ref b), (1, .ref (ad 0)), (2, .ref (ad 77)), (3, .ref (ad 88)), (4, .int (nI (6 * q)))]) (k : Nat) (hk : k ≤ 2) (bn : Nat) (hbn : bn ≤ 1) {rmH rmM : Room} {mc ms : Nat} (hmc : mc ≤ 1) (hms : ms ≤ 6) {PH : (Nat → va_E) → Prop} {PG : (Nat → va_E) → (Nat → va_E) → Prop} (hH : ∀ sz, MH l yL_answer (.codeWith yL_answer cL_answer 6 (some .int) [(0, 19, 22, 13), (0, 19, 26, 19)]) rmH [.ref (ad 0), .int (xs (6 * q + 1)), .int (xs (6 * q + 2)), .int (xs (6 * q + 3)), .ref (ad 88)] D (tyL cI cJ cZ cD) ad 89 w sz sa (some (.int (nI k))) PH mc ms) (hRH : rmH.cells = mc ∧ rmH.slots = ms ∧ rmH.frames + 1 ≤ room_1.frames ∧ 8 + (6 + 11) + rmH.locals ≤ room_1.locals) (h77 : ∀ u, PH u → ∃ fs, u 77 = .inr (4, fs)) (hG : ∀ u sz, PH u → MW l yX5_answer (.code yX5_answer cX5_answer 5 (some .boolean)) rmM [.ref (ad 77), .int (xs (6 * q + 1)), .int (xs (6 * q + 2)), .int (xs (6 * q + 3))] D (tyL cI cJ cZ cD) ad 89 u sz (some (.int (nI bn))) (PG u)) (hRG : RF room_1 rmM 0 0 5) (hE : ∀ u u2, PH u → PG u u2 → INVk ad cI cJ cZ cD u2 k (lN bn))
    (kx : ∀ (w : Nat → va_E) (H : Heap) (locs : List Loc) (ls : Array Slot), INV ad cI cJ cZ cD w → WW D vwCl (tyL cI cJ cZ cD) A s.heap ad 89 w s H locs → lv_has ls 8 [(0, .ref b), (1, .ref (ad 0)), (2, .ref (ad 77)), (3, .ref (ad 88)), (4, .int (nI (6 * q)))] → W p l e room_1 s m #[.ref b] below meth c H locs (cells + 1) (slots + 6) Q (F0 m 1347 ls [])) : W p l e room_1 s m #[.ref b] below meth c H locs cells slots Q (F0 m 603 ls []) := by
  obtain ⟨hx, hb, hml, hown, hts⟩ := id hC
  refine lv_aload_n hx hb dL_law_603 rfl (lv_at hl 1 rfl) ?_
  refine lv_aload_n hx hb dL_law_604 rfl (lv_at hl 0 rfl) ?_
  refine lv_iload hx hb dL_law_605 (lv_at hl 4 rfl) ?_
  refine lv_iconst (v := nI 1) hx hb dL_law_607 (by decide) ?_
  refine t_iadd hx hb dL_law_608 (v := nI (6 * q + 1)) (nI_add _ _) ?_
  refine x_sld hx hb hX hbl hbA hL hw (j := 6 * q + 1) (by omega) dL_law_609 ?_
  refine lv_aload_n hx hb dL_law_610 rfl (lv_at hl 0 rfl) ?_
  refine lv_iload hx hb dL_law_611 (lv_at hl 4 rfl) ?_
  refine lv_iconst (v := nI 2) hx hb dL_law_613 (by decide) ?_
  refine t_iadd hx hb dL_law_614 (v := nI (6 * q + 2)) (nI_add _ _) ?_
  refine x_sld hx hb hX hbl hbA hL hw (j := 6 * q + 2) (by omega) dL_law_615 ?_
  refine lv_aload_n hx hb dL_law_616 rfl (lv_at hl 0 rfl) ?_
  refine lv_iload hx hb dL_law_617 (lv_at hl 4 rfl) ?_
  refine lv_iconst (v := nI 3) hx hb dL_law_619 (by decide) ?_
  refine t_iadd hx hb dL_law_620 (v := nI (6 * q + 3)) (nI_add _ _) ?_
  refine x_sld hx hb hX hbl hbA hL hw (j := 6 * q + 3) (by omega) dL_law_621 ?_
  refine lv_aload_n hx hb dL_law_622 rfl (lv_at hl 3 rfl) ?_
  refine x_callH (As := [.ref (ad 0), .int (xs (6 * q + 1)), .int (xs (6 * q + 2)), .int (xs (6 * q + 3)), .ref (ad 88)]) (rest := []) hC hf_answer hiniL hw hA hT (hH _) hRH hl.1 (Nat.le_of_ble_eq_true rfl) dL_law_623 ⟨by omega, by omega⟩ rfl (fun u H locs hu hw => ?_)
  refine lv_istore (lv' := [(5, .int (nI k)), (0, .ref b), (1, .ref (ad 0)), (2, .ref (ad 77)), (3, .ref (ad 88)), (4, .int (nI (6 * q)))]) hx hb dL_law_626 hl (by decide) rfl (fun ls hl => ?_)
  refine lv_aload_n hx hb dL_law_628 rfl (lv_at hl 3 rfl) ?_
  refine lv_aload_n hx hb dL_law_629 rfl (lv_at hl 1 rfl) ?_
  refine lv_iload hx hb dL_law_630 (lv_at hl 5 rfl) ?_
  refine lv_iconst (v := nI 1) hx hb dL_law_632 (by decide) ?_
  refine t_iadd hx hb dL_law_633 (v := nI (6 * q + 1)) (nI_add _ _) ?_
  refine x_sld hx hb hX hbl hbA hL hw (j := 6 * q + 1) (by omega) dL_law_634 ?_
  refine lv_aload_n hx hb dL_law_635 rfl (lv_at hl 1 rfl) ?_
  refine lv_iload hx hb dL_law_636 (lv_at hl 5 rfl) ?_
  refine lv_iconst (v := nI 2) hx hb dL_law_638 (by decide) ?_
  refine t_iadd hx hb dL_law_639 (v := nI (6 * q + 2)) (nI_add _ _) ?_
  refine x_sld hx hb hX hbl hbA hL hw (j := 6 * q + 2) (by omega) dL_law_640 ?_
  refine lv_aload_n hx hb dL_law_641 rfl (lv_at hl 1 rfl) ?_
  refine lv_iload hx hb dL_law_642 (lv_at hl 5 rfl) ?_
  refine lv_iconst (v := nI 3) hx hb dL_law_644 (by decide) ?_
  refine t_iadd hx hb dL_law_645 (v := nI (6 * q + 3)) (nI_add _ _) ?_
  refine x_sld hx hb hX hbl hbA hL hw (j := 6 * q + 3) (by omega) dL_law_646 ?_
  obtain ⟨fs7, h7⟩ := h77 u hu
  refine x_callW1 (As := [.int (xs (6 * q + 1)), .int (xs (6 * q + 2)), .int (xs (6 * q + 3))]) (rest := []) hC vf_L_118 hw hA (by decide) h7 rfl rfl (hG u _ hu) hRG hl.1 (Nat.le_of_ble_eq_true rfl) dL_law_647 ⟨by omega, by omega⟩ rfl (fun u2 H locs hu2 hw => ?_)
  obtain ⟨⟨n7, t7, cl7, qu7, en7, kp7, hs7, g7⟩, ⟨ofn, g8, hval⟩, hinv⟩ := hE u u2 hu hu2
  refine lv_istore (lv' := [(6, .int (nI bn)), (5, .int (nI k)), (0, .ref b), (1, .ref (ad 0)), (2, .ref (ad 77)), (3, .ref (ad 88)), (4, .int (nI (6 * q)))]) hx hb dL_law_650 hl (by decide) rfl (fun ls hl => ?_)
  refine lv_aload_n hx hb dL_law_652 rfl (lv_at hl 4 rfl) ?_
  refine x_callW1 (As := []) (rest := []) hC vf_L_89 hw hA (by decide) g7 rfl rfl (k5_thrown l _ _ _ _ _ _ _ _ g7) ⟨rfl, rfl, Nat.le_of_ble_eq_true rfl, Nat.le_of_ble_eq_true rfl⟩ hl.1 (Nat.le_of_ble_eq_true rfl) dL_law_653 ⟨by omega, by omega⟩ rfl (fun u3 H locs hu3 hw => ?_)
  rw [hu3] at hw
  refine lv_iload hx hb dL_law_656 (lv_at hl 1 rfl) ?_
  refine lv_icmp_eq (tgt := 663) hx hb dL_law_658 (by decide) (fun q1 => ?_) (fun q1 => absurd rfl q1)
  refine lv_iload hx hb dL_law_663 (lv_at hl 1 rfl) ?_
  refine lv_if_ne (tgt := 687) hx hb dL_law_665 (by decide) (fun q2 => ?_) (fun q2 => ?_)
  · rw [nI_z (by omega)] at q2
    refine lv_goto (tgt := 1347) hx hb dL_law_687 (by decide) ?_
    refine W.widen (k := cells + 1) (n := slots + 6) (by omega) (by omega) ?_
    exact kx u2 H locs ls hinv hw (lv_sub hl [2, 3, 4, 5, 6] rfl)
  · rw [nI_z (by omega)] at q2
    have hv0 := hval (by omega)
    refine lv_aload_n hx hb dL_law_668 rfl (lv_at hl 5 rfl) ?_
    refine lv_iconst (v := nI 0) hx hb dL_law_669 (by decide) ?_
    refine x_lald hx hb hw (by decide) 1 g8 rfl (j := 0) (by decide) (by decide) rfl dL_law_670 ?_
    refine lv_iload hx hb dL_law_671 (lv_at hl 0 rfl) ?_
    refine lv_if_eq (tgt := 680) hx hb dL_law_673 (by decide) (fun q3 => ?_) (fun q3 => ?_)
    · rw [nI_z (by omega)] at q3
      have hbv : bn = 0 := by omega
      refine lv_lconst (v := lN 0) hx hb dL_law_680 (by decide) ?_
      refine W.lcmp hx hb dL_law_681 ?_
      refine lv_if_eq (tgt := 687) hx hb dL_law_682 (by decide) (fun q4 => ?_) (fun q4 => absurd (by rw [lg_cmp_eq, hv0, hbv]) q4)
      refine lv_goto (tgt := 1347) hx hb dL_law_687 (by decide) ?_
      refine W.widen (k := cells + 1) (n := slots + 6) (by omega) (by omega) ?_
      exact kx u2 H locs ls hinv hw (lv_sub hl [2, 3, 4, 5, 6] rfl)
    · rw [nI_z (by omega)] at q3
      have hbv : bn = 1 := by omega
      refine lv_lconst (v := lN 1) hx hb dL_law_676 (by decide) ?_
      refine lv_goto (tgt := 681) hx hb dL_law_677 (by decide) ?_
      refine W.lcmp hx hb dL_law_681 ?_
      refine lv_if_eq (tgt := 687) hx hb dL_law_682 (by decide) (fun q4 => ?_) (fun q4 => absurd (by rw [lg_cmp_eq, hv0, hbv]) q4)
      refine lv_goto (tgt := 1347) hx hb dL_law_687 (by decide) ?_
      refine W.widen (k := cells + 1) (n := slots + 6) (by omega) (by omega) ?_
      exact kx u2 H locs ls hinv hw (lv_sub hl [2, 3, 4, 5, 6] rfl)
set_option maxHeartbeats 4000000 in
set_option maxRecDepth 100000 in
theorem lk_close {l : Launch} {p : Program} {e : Env} {s : State} {m : MethodId} {below : List Frame} {meth : Method} {c : Code} {Q : State → Prop} {D : va_G} {cI cJ cZ cD : ClassId} {ad : Nat → Nat} {sa : Nat → Nat} {A : Nat → Prop} {H : Heap} {locs : List Loc} {cells slots : Nat} {ls : Array Slot} {b L : Nat} {xs : Nat → Int32} {w : Nat → va_E} (hC : CallFix p m c cL_law 8 s #[.ref b] wsL_law RL) (hiniL : (Cond.initialized RL).before #[.ref b] s = true) (hX : va_X b L xs s s.heap) (hbl : b < s.heap.size) (hbA : ¬ A b) (hA : ∀ q, s.heap.size ≤ q → A q) (hT : TH sa A s) (q : Nat) (hq : 6 * q + 6 ≤ L) (hL : L ≤ 3072) (hce : cells + 1 ≤ room_1.cells ∧ slots + 6 ≤ room_1.slots) (hw : WW D vwCl (tyL cI cJ cZ cD) A s.heap ad 89 w s H locs) (hl : lv_has ls 8 [(0, .ref b), (1, .ref (ad 0)), (2, .ref (ad 77)), (3, .ref (ad 88)), (4, .int (nI (6 * q)))]) (k : Nat) (hk : k ≤ 2) (bv : Int32) {rmH rmM : Room} {mc ms : Nat} (hmc : mc ≤ 1) (hms : ms ≤ 6) {PH : (Nat → va_E) → Prop} {PG : (Nat → va_E) → (Nat → va_E) → Prop} (hH : ∀ sz, MH l yL_close (.codeWith yL_close cL_close 5 (some .int) [(0, 9, 12, 19)]) rmH [.ref (ad 0), .long ((((xs (6 * q + 1)).toInt64) <<< ((nI 32).toInt64 &&& 63)) ||| (((xs (6 * q + 2)).toInt64) &&& ((4294967295)))), .ref (ad 88)] D (tyL cI cJ cZ cD) ad 89 w sz sa (some (.int (nI k))) PH mc ms) (hRH : rmH.cells = mc ∧ rmH.slots = ms ∧ rmH.frames + 1 ≤ room_1.frames ∧ 8 + (5 + 11) + rmH.locals ≤ room_1.locals) (h77 : ∀ u, PH u → ∃ fs, u 77 = .inr (4, fs)) (hG : ∀ u sz, PH u → MW l yX5_close (.code yX5_close cX5_close 9 (some .int)) rmM [.ref (ad 77), .long ((((xs (6 * q + 1)).toInt64) <<< ((nI 32).toInt64 &&& 63)) ||| (((xs (6 * q + 2)).toInt64) &&& ((4294967295))))] D (tyL cI cJ cZ cD) ad 89 u sz (some (.int bv)) (PG u)) (hRG : RF room_1 rmM 0 0 9) (hE : ∀ u u2, PH u → PG u u2 → INVk ad cI cJ cZ cD u2 k bv.toInt64)
    (kx : ∀ (w : Nat → va_E) (H : Heap) (locs : List Loc) (ls : Array Slot), INV ad cI cJ cZ cD w → WW D vwCl (tyL cI cJ cZ cD) A s.heap ad 89 w s H locs → lv_has ls 8 [(0, .ref b), (1, .ref (ad 0)), (2, .ref (ad 77)), (3, .ref (ad 88)), (4, .int (nI (6 * q)))] → W p l e room_1 s m #[.ref b] below meth c H locs (cells + 1) (slots + 6) Q (F0 m 1347 ls [])) : W p l e room_1 s m #[.ref b] below meth c H locs cells slots Q (F0 m 690 ls []) := by
  obtain ⟨hx, hb, hml, hown, hts⟩ := id hC
  refine lv_aload_n hx hb dL_law_690 rfl (lv_at hl 1 rfl) ?_
  refine lv_aload_n hx hb dL_law_691 rfl (lv_at hl 0 rfl) ?_
  refine lv_iload hx hb dL_law_692 (lv_at hl 4 rfl) ?_
  refine lv_iconst (v := nI 1) hx hb dL_law_694 (by decide) ?_
  refine t_iadd hx hb dL_law_695 (v := nI (6 * q + 1)) (nI_add _ _) ?_
  refine x_sld hx hb hX hbl hbA hL hw (j := 6 * q + 1) (by omega) dL_law_696 ?_
  refine lv_i2l hx hb dL_law_697 rfl ?_
  refine lv_bipush (v := nI 32) hx hb dL_law_698 (by decide) ?_
  refine lv_lshl hx hb dL_law_700 rfl ?_
  refine lv_aload_n hx hb dL_law_701 rfl (lv_at hl 0 rfl) ?_
  refine lv_iload hx hb dL_law_702 (lv_at hl 4 rfl) ?_
  refine lv_iconst (v := nI 2) hx hb dL_law_704 (by decide) ?_
  refine t_iadd hx hb dL_law_705 (v := nI (6 * q + 2)) (nI_add _ _) ?_
  refine x_sld hx hb hX hbl hbA hL hw (j := 6 * q + 2) (by omega) dL_law_706 ?_
  refine lv_i2l hx hb dL_law_707 rfl ?_
  refine lv_ldc2 hx hb hown (hts _ ct_L_92) dL_law_708 ?_
  refine lv_land hx hb dL_law_711 ?_
  refine lv_lor hx hb dL_law_712 ?_
  refine lv_aload_n hx hb dL_law_713 rfl (lv_at hl 3 rfl) ?_
  refine x_callH (As := [.ref (ad 0), .long ((((xs (6 * q + 1)).toInt64) <<< ((nI 32).toInt64 &&& 63)) ||| (((xs (6 * q + 2)).toInt64) &&& ((4294967295)))), .ref (ad 88)]) (rest := []) hC hf_close hiniL hw hA hT (hH _) hRH hl.1 (Nat.le_of_ble_eq_true rfl) dL_law_714 ⟨by omega, by omega⟩ rfl (fun u H locs hu hw => ?_)
  refine lv_istore (lv' := [(5, .int (nI k)), (0, .ref b), (1, .ref (ad 0)), (2, .ref (ad 77)), (3, .ref (ad 88)), (4, .int (nI (6 * q)))]) hx hb dL_law_717 hl (by decide) rfl (fun ls hl => ?_)
  refine lv_aload_n hx hb dL_law_719 rfl (lv_at hl 3 rfl) ?_
  refine lv_aload_n hx hb dL_law_720 rfl (lv_at hl 1 rfl) ?_
  refine lv_iload hx hb dL_law_721 (lv_at hl 5 rfl) ?_
  refine lv_iconst (v := nI 1) hx hb dL_law_723 (by decide) ?_
  refine t_iadd hx hb dL_law_724 (v := nI (6 * q + 1)) (nI_add _ _) ?_
  refine x_sld hx hb hX hbl hbA hL hw (j := 6 * q + 1) (by omega) dL_law_725 ?_
  refine lv_i2l hx hb dL_law_726 rfl ?_
  refine lv_bipush (v := nI 32) hx hb dL_law_727 (by decide) ?_
  refine lv_lshl hx hb dL_law_729 rfl ?_
  refine lv_aload_n hx hb dL_law_730 rfl (lv_at hl 1 rfl) ?_
  refine lv_iload hx hb dL_law_731 (lv_at hl 5 rfl) ?_
  refine lv_iconst (v := nI 2) hx hb dL_law_733 (by decide) ?_
  refine t_iadd hx hb dL_law_734 (v := nI (6 * q + 2)) (nI_add _ _) ?_
  refine x_sld hx hb hX hbl hbA hL hw (j := 6 * q + 2) (by omega) dL_law_735 ?_
  refine lv_i2l hx hb dL_law_736 rfl ?_
  refine lv_ldc2 hx hb hown (hts _ ct_L_92) dL_law_737 ?_
  refine lv_land hx hb dL_law_740 ?_
  refine lv_lor hx hb dL_law_741 ?_
  obtain ⟨fs7, h7⟩ := h77 u hu
  refine x_callW1 (As := [.long ((((xs (6 * q + 1)).toInt64) <<< ((nI 32).toInt64 &&& 63)) ||| (((xs (6 * q + 2)).toInt64) &&& ((4294967295))))]) (rest := []) hC vf_L_122 hw hA (by decide) h7 rfl rfl (hG u _ hu) hRG hl.1 (Nat.le_of_ble_eq_true rfl) dL_law_742 ⟨by omega, by omega⟩ rfl (fun u2 H locs hu2 hw => ?_)
  obtain ⟨⟨n7, t7, cl7, qu7, en7, kp7, hs7, g7⟩, ⟨ofn, g8, hval⟩, hinv⟩ := hE u u2 hu hu2
  refine lv_istore (lv' := [(6, .int bv), (5, .int (nI k)), (0, .ref b), (1, .ref (ad 0)), (2, .ref (ad 77)), (3, .ref (ad 88)), (4, .int (nI (6 * q)))]) hx hb dL_law_745 hl (by decide) rfl (fun ls hl => ?_)
  refine lv_aload_n hx hb dL_law_747 rfl (lv_at hl 4 rfl) ?_
  refine x_callW1 (As := []) (rest := []) hC vf_L_89 hw hA (by decide) g7 rfl rfl (k5_thrown l _ _ _ _ _ _ _ _ g7) ⟨rfl, rfl, Nat.le_of_ble_eq_true rfl, Nat.le_of_ble_eq_true rfl⟩ hl.1 (Nat.le_of_ble_eq_true rfl) dL_law_748 ⟨by omega, by omega⟩ rfl (fun u3 H locs hu3 hw => ?_)
  rw [hu3] at hw
  refine lv_iload hx hb dL_law_751 (lv_at hl 1 rfl) ?_
  refine lv_icmp_eq (tgt := 758) hx hb dL_law_753 (by decide) (fun q1 => ?_) (fun q1 => absurd rfl q1)
  refine lv_iload hx hb dL_law_758 (lv_at hl 1 rfl) ?_
  refine lv_if_ne (tgt := 775) hx hb dL_law_760 (by decide) (fun q2 => ?_) (fun q2 => ?_)
  · rw [nI_z (by omega)] at q2
    refine lv_goto (tgt := 1347) hx hb dL_law_775 (by decide) ?_
    refine W.widen (k := cells + 1) (n := slots + 6) (by omega) (by omega) ?_
    exact kx u2 H locs ls hinv hw (lv_sub hl [2, 3, 4, 5, 6] rfl)
  · rw [nI_z (by omega)] at q2
    have hv0 := hval (by omega)
    refine lv_aload_n hx hb dL_law_763 rfl (lv_at hl 5 rfl) ?_
    refine lv_iconst (v := nI 0) hx hb dL_law_764 (by decide) ?_
    refine x_lald hx hb hw (by decide) 1 g8 rfl (j := 0) (by decide) (by decide) rfl dL_law_765 ?_
    refine lv_iload hx hb dL_law_766 (lv_at hl 0 rfl) ?_
    refine lv_i2l hx hb dL_law_768 rfl ?_
    refine W.lcmp hx hb dL_law_769 ?_
    refine lv_if_eq (tgt := 775) hx hb dL_law_770 (by decide) (fun q4 => ?_) (fun q4 => absurd (by rw [lg_cmp_eq, hv0]) q4)
    refine lv_goto (tgt := 1347) hx hb dL_law_775 (by decide) ?_
    refine W.widen (k := cells + 1) (n := slots + 6) (by omega) (by omega) ?_
    exact kx u2 H locs ls hinv hw (lv_sub hl [2, 3, 4, 5, 6] rfl)
set_option maxHeartbeats 4000000 in
set_option maxRecDepth 100000 in
theorem lk_key {l : Launch} {p : Program} {e : Env} {s : State} {m : MethodId} {below : List Frame} {meth : Method} {c : Code} {Q : State → Prop} {D : va_G} {cI cJ cZ cD : ClassId} {ad : Nat → Nat} {sa : Nat → Nat} {A : Nat → Prop} {H : Heap} {locs : List Loc} {cells slots : Nat} {ls : Array Slot} {b L : Nat} {xs : Nat → Int32} {w : Nat → va_E} (hC : CallFix p m c cL_law 8 s #[.ref b] wsL_law RL) (hiniL : (Cond.initialized RL).before #[.ref b] s = true) (hX : va_X b L xs s s.heap) (hbl : b < s.heap.size) (hbA : ¬ A b) (hA : ∀ q, s.heap.size ≤ q → A q) (hT : TH sa A s) (q : Nat) (hq : 6 * q + 6 ≤ L) (hL : L ≤ 3072) (hce : cells + 1 ≤ room_1.cells ∧ slots + 6 ≤ room_1.slots) (hw : WW D vwCl (tyL cI cJ cZ cD) A s.heap ad 89 w s H locs) (hl : lv_has ls 8 [(0, .ref b), (1, .ref (ad 0)), (2, .ref (ad 77)), (3, .ref (ad 88)), (4, .int (nI (6 * q)))]) (k : Nat) (hk : k ≤ 2) (bv : Int32) {rmH rmM : Room} {mc ms : Nat} (hmc : mc ≤ 1) (hms : ms ≤ 6) {PH : (Nat → va_E) → Prop} {PG : (Nat → va_E) → (Nat → va_E) → Prop} (hH : ∀ sz, MH l yL_key (.codeWith yL_key cL_key 5 (some .int) [(0, 10, 13, 13), (0, 10, 17, 19)]) rmH [.ref (ad 0), .int (xs (6 * q + 1)), .int (xs (6 * q + 2)), .ref (ad 88)] D (tyL cI cJ cZ cD) ad 89 w sz sa (some (.int (nI k))) PH mc ms) (hRH : rmH.cells = mc ∧ rmH.slots = ms ∧ rmH.frames + 1 ≤ room_1.frames ∧ 8 + (5 + 11) + rmH.locals ≤ room_1.locals) (h77 : ∀ u, PH u → ∃ fs, u 77 = .inr (4, fs)) (hG : ∀ u sz, PH u → MW l yX5_key (.code yX5_key cX5_key 4 (some .int)) rmM [.ref (ad 77), .int (xs (6 * q + 1)), .int (xs (6 * q + 2))] D (tyL cI cJ cZ cD) ad 89 u sz (some (.int bv)) (PG u)) (hRG : RF room_1 rmM 0 0 4) (hE : ∀ u u2, PH u → PG u u2 → INVk ad cI cJ cZ cD u2 k bv.toInt64)
    (kx : ∀ (w : Nat → va_E) (H : Heap) (locs : List Loc) (ls : Array Slot), INV ad cI cJ cZ cD w → WW D vwCl (tyL cI cJ cZ cD) A s.heap ad 89 w s H locs → lv_has ls 8 [(0, .ref b), (1, .ref (ad 0)), (2, .ref (ad 77)), (3, .ref (ad 88)), (4, .int (nI (6 * q)))] → W p l e room_1 s m #[.ref b] below meth c H locs (cells + 1) (slots + 6) Q (F0 m 1347 ls [])) : W p l e room_1 s m #[.ref b] below meth c H locs cells slots Q (F0 m 778 ls []) := by
  obtain ⟨hx, hb, hml, hown, hts⟩ := id hC
  refine lv_aload_n hx hb dL_law_778 rfl (lv_at hl 1 rfl) ?_
  refine lv_aload_n hx hb dL_law_779 rfl (lv_at hl 0 rfl) ?_
  refine lv_iload hx hb dL_law_780 (lv_at hl 4 rfl) ?_
  refine lv_iconst (v := nI 1) hx hb dL_law_782 (by decide) ?_
  refine t_iadd hx hb dL_law_783 (v := nI (6 * q + 1)) (nI_add _ _) ?_
  refine x_sld hx hb hX hbl hbA hL hw (j := 6 * q + 1) (by omega) dL_law_784 ?_
  refine lv_aload_n hx hb dL_law_785 rfl (lv_at hl 0 rfl) ?_
  refine lv_iload hx hb dL_law_786 (lv_at hl 4 rfl) ?_
  refine lv_iconst (v := nI 2) hx hb dL_law_788 (by decide) ?_
  refine t_iadd hx hb dL_law_789 (v := nI (6 * q + 2)) (nI_add _ _) ?_
  refine x_sld hx hb hX hbl hbA hL hw (j := 6 * q + 2) (by omega) dL_law_790 ?_
  refine lv_aload_n hx hb dL_law_791 rfl (lv_at hl 3 rfl) ?_
  refine x_callH (As := [.ref (ad 0), .int (xs (6 * q + 1)), .int (xs (6 * q + 2)), .ref (ad 88)]) (rest := []) hC hf_key hiniL hw hA hT (hH _) hRH hl.1 (Nat.le_of_ble_eq_true rfl) dL_law_792 ⟨by omega, by omega⟩ rfl (fun u H locs hu hw => ?_)
  refine lv_istore (lv' := [(5, .int (nI k)), (0, .ref b), (1, .ref (ad 0)), (2, .ref (ad 77)), (3, .ref (ad 88)), (4, .int (nI (6 * q)))]) hx hb dL_law_795 hl (by decide) rfl (fun ls hl => ?_)
  refine lv_aload_n hx hb dL_law_797 rfl (lv_at hl 3 rfl) ?_
  refine lv_aload_n hx hb dL_law_798 rfl (lv_at hl 1 rfl) ?_
  refine lv_iload hx hb dL_law_799 (lv_at hl 5 rfl) ?_
  refine lv_iconst (v := nI 1) hx hb dL_law_801 (by decide) ?_
  refine t_iadd hx hb dL_law_802 (v := nI (6 * q + 1)) (nI_add _ _) ?_
  refine x_sld hx hb hX hbl hbA hL hw (j := 6 * q + 1) (by omega) dL_law_803 ?_
  refine lv_aload_n hx hb dL_law_804 rfl (lv_at hl 1 rfl) ?_
  refine lv_iload hx hb dL_law_805 (lv_at hl 5 rfl) ?_
  refine lv_iconst (v := nI 2) hx hb dL_law_807 (by decide) ?_
  refine t_iadd hx hb dL_law_808 (v := nI (6 * q + 2)) (nI_add _ _) ?_
  refine x_sld hx hb hX hbl hbA hL hw (j := 6 * q + 2) (by omega) dL_law_809 ?_
  obtain ⟨fs7, h7⟩ := h77 u hu
  refine x_callW1 (As := [.int (xs (6 * q + 1)), .int (xs (6 * q + 2))]) (rest := []) hC vf_L_125 hw hA (by decide) h7 rfl rfl (hG u _ hu) hRG hl.1 (Nat.le_of_ble_eq_true rfl) dL_law_810 ⟨by omega, by omega⟩ rfl (fun u2 H locs hu2 hw => ?_)
  obtain ⟨⟨n7, t7, cl7, qu7, en7, kp7, hs7, g7⟩, ⟨ofn, g8, hval⟩, hinv⟩ := hE u u2 hu hu2
  refine lv_istore (lv' := [(6, .int bv), (5, .int (nI k)), (0, .ref b), (1, .ref (ad 0)), (2, .ref (ad 77)), (3, .ref (ad 88)), (4, .int (nI (6 * q)))]) hx hb dL_law_813 hl (by decide) rfl (fun ls hl => ?_)
  refine lv_aload_n hx hb dL_law_815 rfl (lv_at hl 4 rfl) ?_
  refine x_callW1 (As := []) (rest := []) hC vf_L_89 hw hA (by decide) g7 rfl rfl (k5_thrown l _ _ _ _ _ _ _ _ g7) ⟨rfl, rfl, Nat.le_of_ble_eq_true rfl, Nat.le_of_ble_eq_true rfl⟩ hl.1 (Nat.le_of_ble_eq_true rfl) dL_law_816 ⟨by omega, by omega⟩ rfl (fun u3 H locs hu3 hw => ?_)
  rw [hu3] at hw
  refine lv_iload hx hb dL_law_819 (lv_at hl 1 rfl) ?_
  refine lv_icmp_eq (tgt := 826) hx hb dL_law_821 (by decide) (fun q1 => ?_) (fun q1 => absurd rfl q1)
  refine lv_iload hx hb dL_law_826 (lv_at hl 1 rfl) ?_
  refine lv_if_ne (tgt := 843) hx hb dL_law_828 (by decide) (fun q2 => ?_) (fun q2 => ?_)
  · rw [nI_z (by omega)] at q2
    refine lv_goto (tgt := 1347) hx hb dL_law_843 (by decide) ?_
    refine W.widen (k := cells + 1) (n := slots + 6) (by omega) (by omega) ?_
    exact kx u2 H locs ls hinv hw (lv_sub hl [2, 3, 4, 5, 6] rfl)
  · rw [nI_z (by omega)] at q2
    have hv0 := hval (by omega)
    refine lv_aload_n hx hb dL_law_831 rfl (lv_at hl 5 rfl) ?_
    refine lv_iconst (v := nI 0) hx hb dL_law_832 (by decide) ?_
    refine x_lald hx hb hw (by decide) 1 g8 rfl (j := 0) (by decide) (by decide) rfl dL_law_833 ?_
    refine lv_iload hx hb dL_law_834 (lv_at hl 0 rfl) ?_
    refine lv_i2l hx hb dL_law_836 rfl ?_
    refine W.lcmp hx hb dL_law_837 ?_
    refine lv_if_eq (tgt := 843) hx hb dL_law_838 (by decide) (fun q4 => ?_) (fun q4 => absurd (by rw [lg_cmp_eq, hv0]) q4)
    refine lv_goto (tgt := 1347) hx hb dL_law_843 (by decide) ?_
    refine W.widen (k := cells + 1) (n := slots + 6) (by omega) (by omega) ?_
    exact kx u2 H locs ls hinv hw (lv_sub hl [2, 3, 4, 5, 6] rfl)
set_option maxHeartbeats 4000000 in
set_option maxRecDepth 100000 in
theorem lk_round {l : Launch} {p : Program} {e : Env} {s : State} {m : MethodId} {below : List Frame} {meth : Method} {c : Code} {Q : State → Prop} {D : va_G} {cI cJ cZ cD : ClassId} {ad : Nat → Nat} {sa : Nat → Nat} {A : Nat → Prop} {H : Heap} {locs : List Loc} {cells slots : Nat} {ls : Array Slot} {b L : Nat} {xs : Nat → Int32} {w : Nat → va_E} (hC : CallFix p m c cL_law 8 s #[.ref b] wsL_law RL) (hiniL : (Cond.initialized RL).before #[.ref b] s = true) (hX : va_X b L xs s s.heap) (hbl : b < s.heap.size) (hbA : ¬ A b) (hA : ∀ q, s.heap.size ≤ q → A q) (hT : TH sa A s) (q : Nat) (hq : 6 * q + 6 ≤ L) (hL : L ≤ 3072) (hce : cells + 1 ≤ room_1.cells ∧ slots + 6 ≤ room_1.slots) (hw : WW D vwCl (tyL cI cJ cZ cD) A s.heap ad 89 w s H locs) (hl : lv_has ls 8 [(0, .ref b), (1, .ref (ad 0)), (2, .ref (ad 77)), (3, .ref (ad 88)), (4, .int (nI (6 * q)))]) (k : Nat) (hk : k ≤ 2) (bv : Int32) {rmH rmM : Room} {mc ms : Nat} (hmc : mc ≤ 1) (hms : ms ≤ 6) {PH : (Nat → va_E) → Prop} {PG : (Nat → va_E) → (Nat → va_E) → Prop} (hH : ∀ sz, MH l yL_round (.codeWith yL_round cL_round 4 (some .int) [(0, 9, 12, 19), (0, 9, 15, 13)]) rmH [.ref (ad 0), .int (xs (6 * q + 1)), .ref (ad 88)] D (tyL cI cJ cZ cD) ad 89 w sz sa (some (.int (nI k))) PH mc ms) (hRH : rmH.cells = mc ∧ rmH.slots = ms ∧ rmH.frames + 1 ≤ room_1.frames ∧ 8 + (4 + 11) + rmH.locals ≤ room_1.locals) (h77 : ∀ u, PH u → ∃ fs, u 77 = .inr (4, fs)) (hG : ∀ u sz, PH u → MW l yX5_round (.code yX5_round cX5_round 4 (some .int)) rmM [.ref (ad 77), .int (xs (6 * q + 1))] D (tyL cI cJ cZ cD) ad 89 u sz (some (.int bv)) (PG u)) (hRG : RF room_1 rmM 0 0 4) (hE : ∀ u u2, PH u → PG u u2 → INVk ad cI cJ cZ cD u2 k bv.toInt64)
    (kx : ∀ (w : Nat → va_E) (H : Heap) (locs : List Loc) (ls : Array Slot), INV ad cI cJ cZ cD w → WW D vwCl (tyL cI cJ cZ cD) A s.heap ad 89 w s H locs → lv_has ls 8 [(0, .ref b), (1, .ref (ad 0)), (2, .ref (ad 77)), (3, .ref (ad 88)), (4, .int (nI (6 * q)))] → W p l e room_1 s m #[.ref b] below meth c H locs (cells + 1) (slots + 6) Q (F0 m 1347 ls [])) : W p l e room_1 s m #[.ref b] below meth c H locs cells slots Q (F0 m 846 ls []) := by
  obtain ⟨hx, hb, hml, hown, hts⟩ := id hC
  refine lv_aload_n hx hb dL_law_846 rfl (lv_at hl 1 rfl) ?_
  refine lv_aload_n hx hb dL_law_847 rfl (lv_at hl 0 rfl) ?_
  refine lv_iload hx hb dL_law_848 (lv_at hl 4 rfl) ?_
  refine lv_iconst (v := nI 1) hx hb dL_law_850 (by decide) ?_
  refine t_iadd hx hb dL_law_851 (v := nI (6 * q + 1)) (nI_add _ _) ?_
  refine x_sld hx hb hX hbl hbA hL hw (j := 6 * q + 1) (by omega) dL_law_852 ?_
  refine lv_aload_n hx hb dL_law_853 rfl (lv_at hl 3 rfl) ?_
  refine x_callH (As := [.ref (ad 0), .int (xs (6 * q + 1)), .ref (ad 88)]) (rest := []) hC hf_round hiniL hw hA hT (hH _) hRH hl.1 (Nat.le_of_ble_eq_true rfl) dL_law_854 ⟨by omega, by omega⟩ rfl (fun u H locs hu hw => ?_)
  refine lv_istore (lv' := [(5, .int (nI k)), (0, .ref b), (1, .ref (ad 0)), (2, .ref (ad 77)), (3, .ref (ad 88)), (4, .int (nI (6 * q)))]) hx hb dL_law_857 hl (by decide) rfl (fun ls hl => ?_)
  refine lv_aload_n hx hb dL_law_859 rfl (lv_at hl 3 rfl) ?_
  refine lv_aload_n hx hb dL_law_860 rfl (lv_at hl 1 rfl) ?_
  refine lv_iload hx hb dL_law_861 (lv_at hl 5 rfl) ?_
  refine lv_iconst (v := nI 1) hx hb dL_law_863 (by decide) ?_
  refine t_iadd hx hb dL_law_864 (v := nI (6 * q + 1)) (nI_add _ _) ?_
  refine x_sld hx hb hX hbl hbA hL hw (j := 6 * q + 1) (by omega) dL_law_865 ?_
  obtain ⟨fs7, h7⟩ := h77 u hu
  refine x_callW1 (As := [.int (xs (6 * q + 1))]) (rest := []) hC vf_L_129 hw hA (by decide) h7 rfl rfl (hG u _ hu) hRG hl.1 (Nat.le_of_ble_eq_true rfl) dL_law_866 ⟨by omega, by omega⟩ rfl (fun u2 H locs hu2 hw => ?_)
  obtain ⟨⟨n7, t7, cl7, qu7, en7, kp7, hs7, g7⟩, ⟨ofn, g8, hval⟩, hinv⟩ := hE u u2 hu hu2
  refine lv_istore (lv' := [(6, .int bv), (5, .int (nI k)), (0, .ref b), (1, .ref (ad 0)), (2, .ref (ad 77)), (3, .ref (ad 88)), (4, .int (nI (6 * q)))]) hx hb dL_law_869 hl (by decide) rfl (fun ls hl => ?_)
  refine lv_aload_n hx hb dL_law_871 rfl (lv_at hl 4 rfl) ?_
  refine x_callW1 (As := []) (rest := []) hC vf_L_89 hw hA (by decide) g7 rfl rfl (k5_thrown l _ _ _ _ _ _ _ _ g7) ⟨rfl, rfl, Nat.le_of_ble_eq_true rfl, Nat.le_of_ble_eq_true rfl⟩ hl.1 (Nat.le_of_ble_eq_true rfl) dL_law_872 ⟨by omega, by omega⟩ rfl (fun u3 H locs hu3 hw => ?_)
  rw [hu3] at hw
  refine lv_iload hx hb dL_law_875 (lv_at hl 1 rfl) ?_
  refine lv_icmp_eq (tgt := 882) hx hb dL_law_877 (by decide) (fun q1 => ?_) (fun q1 => absurd rfl q1)
  refine lv_iload hx hb dL_law_882 (lv_at hl 1 rfl) ?_
  refine lv_if_ne (tgt := 899) hx hb dL_law_884 (by decide) (fun q2 => ?_) (fun q2 => ?_)
  · rw [nI_z (by omega)] at q2
    refine lv_goto (tgt := 1347) hx hb dL_law_899 (by decide) ?_
    refine W.widen (k := cells + 1) (n := slots + 6) (by omega) (by omega) ?_
    exact kx u2 H locs ls hinv hw (lv_sub hl [2, 3, 4, 5, 6] rfl)
  · rw [nI_z (by omega)] at q2
    have hv0 := hval (by omega)
    refine lv_aload_n hx hb dL_law_887 rfl (lv_at hl 5 rfl) ?_
    refine lv_iconst (v := nI 0) hx hb dL_law_888 (by decide) ?_
    refine x_lald hx hb hw (by decide) 1 g8 rfl (j := 0) (by decide) (by decide) rfl dL_law_889 ?_
    refine lv_iload hx hb dL_law_890 (lv_at hl 0 rfl) ?_
    refine lv_i2l hx hb dL_law_892 rfl ?_
    refine W.lcmp hx hb dL_law_893 ?_
    refine lv_if_eq (tgt := 899) hx hb dL_law_894 (by decide) (fun q4 => ?_) (fun q4 => absurd (by rw [lg_cmp_eq, hv0]) q4)
    refine lv_goto (tgt := 1347) hx hb dL_law_899 (by decide) ?_
    refine W.widen (k := cells + 1) (n := slots + 6) (by omega) (by omega) ?_
    exact kx u2 H locs ls hinv hw (lv_sub hl [2, 3, 4, 5, 6] rfl)
set_option maxHeartbeats 4000000 in
set_option maxRecDepth 100000 in
theorem lk_says {l : Launch} {p : Program} {e : Env} {s : State} {m : MethodId} {below : List Frame} {meth : Method} {c : Code} {Q : State → Prop} {D : va_G} {cI cJ cZ cD : ClassId} {ad : Nat → Nat} {sa : Nat → Nat} {A : Nat → Prop} {H : Heap} {locs : List Loc} {cells slots : Nat} {ls : Array Slot} {b L : Nat} {xs : Nat → Int32} {w : Nat → va_E} (hC : CallFix p m c cL_law 8 s #[.ref b] wsL_law RL) (hiniL : (Cond.initialized RL).before #[.ref b] s = true) (hX : va_X b L xs s s.heap) (hbl : b < s.heap.size) (hbA : ¬ A b) (hA : ∀ q, s.heap.size ≤ q → A q) (hT : TH sa A s) (q : Nat) (hq : 6 * q + 6 ≤ L) (hL : L ≤ 3072) (hce : cells + 1 ≤ room_1.cells ∧ slots + 6 ≤ room_1.slots) (hw : WW D vwCl (tyL cI cJ cZ cD) A s.heap ad 89 w s H locs) (hl : lv_has ls 8 [(0, .ref b), (1, .ref (ad 0)), (2, .ref (ad 77)), (3, .ref (ad 88)), (4, .int (nI (6 * q)))]) (k : Nat) (hk : k ≤ 2) (bv : Int32) {rmH rmM : Room} {mc ms : Nat} (hmc : mc ≤ 1) (hms : ms ≤ 6) {PH : (Nat → va_E) → Prop} {PG : (Nat → va_E) → (Nat → va_E) → Prop} (hH : ∀ sz, MH l yL_says (.codeWith yL_says cL_says 5 (some .int) [(0, 10, 13, 19), (0, 10, 17, 13)]) rmH [.ref (ad 0), .int (xs (6 * q + 1)), .int (xs (6 * q + 2)), .ref (ad 88)] D (tyL cI cJ cZ cD) ad 89 w sz sa (some (.int (nI k))) PH mc ms) (hRH : rmH.cells = mc ∧ rmH.slots = ms ∧ rmH.frames + 1 ≤ room_1.frames ∧ 8 + (5 + 11) + rmH.locals ≤ room_1.locals) (h77 : ∀ u, PH u → ∃ fs, u 77 = .inr (4, fs)) (hG : ∀ u sz, PH u → MW l yX5_says (.code yX5_says cX5_says 3 (some .int)) rmM [.ref (ad 77), .int (xs (6 * q + 1)), .int (xs (6 * q + 2))] D (tyL cI cJ cZ cD) ad 89 u sz (some (.int bv)) (PG u)) (hRG : RF room_1 rmM 0 0 3) (hE : ∀ u u2, PH u → PG u u2 → INVk ad cI cJ cZ cD u2 k bv.toInt64)
    (kx : ∀ (w : Nat → va_E) (H : Heap) (locs : List Loc) (ls : Array Slot), INV ad cI cJ cZ cD w → WW D vwCl (tyL cI cJ cZ cD) A s.heap ad 89 w s H locs → lv_has ls 8 [(0, .ref b), (1, .ref (ad 0)), (2, .ref (ad 77)), (3, .ref (ad 88)), (4, .int (nI (6 * q)))] → W p l e room_1 s m #[.ref b] below meth c H locs (cells + 1) (slots + 6) Q (F0 m 1347 ls [])) : W p l e room_1 s m #[.ref b] below meth c H locs cells slots Q (F0 m 902 ls []) := by
  obtain ⟨hx, hb, hml, hown, hts⟩ := id hC
  refine lv_aload_n hx hb dL_law_902 rfl (lv_at hl 1 rfl) ?_
  refine lv_aload_n hx hb dL_law_903 rfl (lv_at hl 0 rfl) ?_
  refine lv_iload hx hb dL_law_904 (lv_at hl 4 rfl) ?_
  refine lv_iconst (v := nI 1) hx hb dL_law_906 (by decide) ?_
  refine t_iadd hx hb dL_law_907 (v := nI (6 * q + 1)) (nI_add _ _) ?_
  refine x_sld hx hb hX hbl hbA hL hw (j := 6 * q + 1) (by omega) dL_law_908 ?_
  refine lv_aload_n hx hb dL_law_909 rfl (lv_at hl 0 rfl) ?_
  refine lv_iload hx hb dL_law_910 (lv_at hl 4 rfl) ?_
  refine lv_iconst (v := nI 2) hx hb dL_law_912 (by decide) ?_
  refine t_iadd hx hb dL_law_913 (v := nI (6 * q + 2)) (nI_add _ _) ?_
  refine x_sld hx hb hX hbl hbA hL hw (j := 6 * q + 2) (by omega) dL_law_914 ?_
  refine lv_aload_n hx hb dL_law_915 rfl (lv_at hl 3 rfl) ?_
  refine x_callH (As := [.ref (ad 0), .int (xs (6 * q + 1)), .int (xs (6 * q + 2)), .ref (ad 88)]) (rest := []) hC hf_says hiniL hw hA hT (hH _) hRH hl.1 (Nat.le_of_ble_eq_true rfl) dL_law_916 ⟨by omega, by omega⟩ rfl (fun u H locs hu hw => ?_)
  refine lv_istore (lv' := [(5, .int (nI k)), (0, .ref b), (1, .ref (ad 0)), (2, .ref (ad 77)), (3, .ref (ad 88)), (4, .int (nI (6 * q)))]) hx hb dL_law_919 hl (by decide) rfl (fun ls hl => ?_)
  refine lv_aload_n hx hb dL_law_921 rfl (lv_at hl 3 rfl) ?_
  refine lv_aload_n hx hb dL_law_922 rfl (lv_at hl 1 rfl) ?_
  refine lv_iload hx hb dL_law_923 (lv_at hl 5 rfl) ?_
  refine lv_iconst (v := nI 1) hx hb dL_law_925 (by decide) ?_
  refine t_iadd hx hb dL_law_926 (v := nI (6 * q + 1)) (nI_add _ _) ?_
  refine x_sld hx hb hX hbl hbA hL hw (j := 6 * q + 1) (by omega) dL_law_927 ?_
  refine lv_aload_n hx hb dL_law_928 rfl (lv_at hl 1 rfl) ?_
  refine lv_iload hx hb dL_law_929 (lv_at hl 5 rfl) ?_
  refine lv_iconst (v := nI 2) hx hb dL_law_931 (by decide) ?_
  refine t_iadd hx hb dL_law_932 (v := nI (6 * q + 2)) (nI_add _ _) ?_
  refine x_sld hx hb hX hbl hbA hL hw (j := 6 * q + 2) (by omega) dL_law_933 ?_
  obtain ⟨fs7, h7⟩ := h77 u hu
  refine x_callW1 (As := [.int (xs (6 * q + 1)), .int (xs (6 * q + 2))]) (rest := []) hC vf_L_132 hw hA (by decide) h7 rfl rfl (hG u _ hu) hRG hl.1 (Nat.le_of_ble_eq_true rfl) dL_law_934 ⟨by omega, by omega⟩ rfl (fun u2 H locs hu2 hw => ?_)
  obtain ⟨⟨n7, t7, cl7, qu7, en7, kp7, hs7, g7⟩, ⟨ofn, g8, hval⟩, hinv⟩ := hE u u2 hu hu2
  refine lv_istore (lv' := [(6, .int bv), (5, .int (nI k)), (0, .ref b), (1, .ref (ad 0)), (2, .ref (ad 77)), (3, .ref (ad 88)), (4, .int (nI (6 * q)))]) hx hb dL_law_937 hl (by decide) rfl (fun ls hl => ?_)
  refine lv_aload_n hx hb dL_law_939 rfl (lv_at hl 4 rfl) ?_
  refine x_callW1 (As := []) (rest := []) hC vf_L_89 hw hA (by decide) g7 rfl rfl (k5_thrown l _ _ _ _ _ _ _ _ g7) ⟨rfl, rfl, Nat.le_of_ble_eq_true rfl, Nat.le_of_ble_eq_true rfl⟩ hl.1 (Nat.le_of_ble_eq_true rfl) dL_law_940 ⟨by omega, by omega⟩ rfl (fun u3 H locs hu3 hw => ?_)
  rw [hu3] at hw
  refine lv_iload hx hb dL_law_943 (lv_at hl 1 rfl) ?_
  refine lv_icmp_eq (tgt := 950) hx hb dL_law_945 (by decide) (fun q1 => ?_) (fun q1 => absurd rfl q1)
  refine lv_iload hx hb dL_law_950 (lv_at hl 1 rfl) ?_
  refine lv_if_ne (tgt := 967) hx hb dL_law_952 (by decide) (fun q2 => ?_) (fun q2 => ?_)
  · rw [nI_z (by omega)] at q2
    refine lv_goto (tgt := 1347) hx hb dL_law_967 (by decide) ?_
    refine W.widen (k := cells + 1) (n := slots + 6) (by omega) (by omega) ?_
    exact kx u2 H locs ls hinv hw (lv_sub hl [2, 3, 4, 5, 6] rfl)
  · rw [nI_z (by omega)] at q2
    have hv0 := hval (by omega)
    refine lv_aload_n hx hb dL_law_955 rfl (lv_at hl 5 rfl) ?_
    refine lv_iconst (v := nI 0) hx hb dL_law_956 (by decide) ?_
    refine x_lald hx hb hw (by decide) 1 g8 rfl (j := 0) (by decide) (by decide) rfl dL_law_957 ?_
    refine lv_iload hx hb dL_law_958 (lv_at hl 0 rfl) ?_
    refine lv_i2l hx hb dL_law_960 rfl ?_
    refine W.lcmp hx hb dL_law_961 ?_
    refine lv_if_eq (tgt := 967) hx hb dL_law_962 (by decide) (fun q4 => ?_) (fun q4 => absurd (by rw [lg_cmp_eq, hv0]) q4)
    refine lv_goto (tgt := 1347) hx hb dL_law_967 (by decide) ?_
    refine W.widen (k := cells + 1) (n := slots + 6) (by omega) (by omega) ?_
    exact kx u2 H locs ls hinv hw (lv_sub hl [2, 3, 4, 5, 6] rfl)
set_option maxHeartbeats 4000000 in
set_option maxRecDepth 100000 in
theorem lk_offer {l : Launch} {p : Program} {e : Env} {s : State} {m : MethodId} {below : List Frame} {meth : Method} {c : Code} {Q : State → Prop} {D : va_G} {cI cJ cZ cD : ClassId} {ad : Nat → Nat} {sa : Nat → Nat} {A : Nat → Prop} {H : Heap} {locs : List Loc} {cells slots : Nat} {ls : Array Slot} {b L : Nat} {xs : Nat → Int32} {w : Nat → va_E} (hC : CallFix p m c cL_law 8 s #[.ref b] wsL_law RL) (hiniL : (Cond.initialized RL).before #[.ref b] s = true) (hX : va_X b L xs s s.heap) (hbl : b < s.heap.size) (hbA : ¬ A b) (hA : ∀ q, s.heap.size ≤ q → A q) (hT : TH sa A s) (q : Nat) (hq : 6 * q + 6 ≤ L) (hL : L ≤ 3072) (hce : cells + 1 ≤ room_1.cells ∧ slots + 6 ≤ room_1.slots) (hw : WW D vwCl (tyL cI cJ cZ cD) A s.heap ad 89 w s H locs) (hl : lv_has ls 8 [(0, .ref b), (1, .ref (ad 0)), (2, .ref (ad 77)), (3, .ref (ad 88)), (4, .int (nI (6 * q)))]) (k : Nat) (hk : k ≤ 2) (bn : Nat) (hbn : bn ≤ 1) {rmH rmM : Room} {mc ms : Nat} (hmc : mc ≤ 1) (hms : ms ≤ 6) {PH : (Nat → va_E) → Prop} {PG : (Nat → va_E) → (Nat → va_E) → Prop} (hH : ∀ sz, MH l yL_offer (.codeWith yL_offer cL_offer 8 (some .int) [(0, 23, 26, 19), (0, 23, 30, 13)]) rmH [.ref (ad 0), .int (xs (6 * q + 1)), .int (xs (6 * q + 2)), .int (xs (6 * q + 3)), .int (xs (6 * q + 4)), .int (xs (6 * q + 5)), .ref (ad 88)] D (tyL cI cJ cZ cD) ad 89 w sz sa (some (.int (nI k))) PH mc ms) (hRH : rmH.cells = mc ∧ rmH.slots = ms ∧ rmH.frames + 1 ≤ room_1.frames ∧ 8 + (8 + 11) + rmH.locals ≤ room_1.locals) (h77 : ∀ u, PH u → ∃ fs, u 77 = .inr (4, fs)) (hG : ∀ u sz, PH u → MW l yX5_offer (.code yX5_offer cX5_offer 12 (some .boolean)) rmM [.ref (ad 77), .int (xs (6 * q + 1)), .int (xs (6 * q + 2)), .int (xs (6 * q + 3)), .int (xs (6 * q + 4)), .int (xs (6 * q + 5))] D (tyL cI cJ cZ cD) ad 89 u sz (some (.int (nI bn))) (PG u)) (hRG : RF room_1 rmM 0 0 12) (hE : ∀ u u2, PH u → PG u u2 → INVk ad cI cJ cZ cD u2 k (lN bn))
    (kx : ∀ (w : Nat → va_E) (H : Heap) (locs : List Loc) (ls : Array Slot), INV ad cI cJ cZ cD w → WW D vwCl (tyL cI cJ cZ cD) A s.heap ad 89 w s H locs → lv_has ls 8 [(0, .ref b), (1, .ref (ad 0)), (2, .ref (ad 77)), (3, .ref (ad 88)), (4, .int (nI (6 * q)))] → W p l e room_1 s m #[.ref b] below meth c H locs (cells + 1) (slots + 6) Q (F0 m 1347 ls [])) : W p l e room_1 s m #[.ref b] below meth c H locs cells slots Q (F0 m 970 ls []) := by
  obtain ⟨hx, hb, hml, hown, hts⟩ := id hC
  refine lv_aload_n hx hb dL_law_970 rfl (lv_at hl 1 rfl) ?_
  refine lv_aload_n hx hb dL_law_971 rfl (lv_at hl 0 rfl) ?_
  refine lv_iload hx hb dL_law_972 (lv_at hl 4 rfl) ?_
  refine lv_iconst (v := nI 1) hx hb dL_law_974 (by decide) ?_
  refine t_iadd hx hb dL_law_975 (v := nI (6 * q + 1)) (nI_add _ _) ?_
  refine x_sld hx hb hX hbl hbA hL hw (j := 6 * q + 1) (by omega) dL_law_976 ?_
  refine lv_aload_n hx hb dL_law_977 rfl (lv_at hl 0 rfl) ?_
  refine lv_iload hx hb dL_law_978 (lv_at hl 4 rfl) ?_
  refine lv_iconst (v := nI 2) hx hb dL_law_980 (by decide) ?_
  refine t_iadd hx hb dL_law_981 (v := nI (6 * q + 2)) (nI_add _ _) ?_
  refine x_sld hx hb hX hbl hbA hL hw (j := 6 * q + 2) (by omega) dL_law_982 ?_
  refine lv_aload_n hx hb dL_law_983 rfl (lv_at hl 0 rfl) ?_
  refine lv_iload hx hb dL_law_984 (lv_at hl 4 rfl) ?_
  refine lv_iconst (v := nI 3) hx hb dL_law_986 (by decide) ?_
  refine t_iadd hx hb dL_law_987 (v := nI (6 * q + 3)) (nI_add _ _) ?_
  refine x_sld hx hb hX hbl hbA hL hw (j := 6 * q + 3) (by omega) dL_law_988 ?_
  refine lv_aload_n hx hb dL_law_989 rfl (lv_at hl 0 rfl) ?_
  refine lv_iload hx hb dL_law_990 (lv_at hl 4 rfl) ?_
  refine lv_iconst (v := nI 4) hx hb dL_law_992 (by decide) ?_
  refine t_iadd hx hb dL_law_993 (v := nI (6 * q + 4)) (nI_add _ _) ?_
  refine x_sld hx hb hX hbl hbA hL hw (j := 6 * q + 4) (by omega) dL_law_994 ?_
  refine lv_aload_n hx hb dL_law_995 rfl (lv_at hl 0 rfl) ?_
  refine lv_iload hx hb dL_law_996 (lv_at hl 4 rfl) ?_
  refine lv_iconst (v := nI 5) hx hb dL_law_998 (by decide) ?_
  refine t_iadd hx hb dL_law_999 (v := nI (6 * q + 5)) (nI_add _ _) ?_
  refine x_sld hx hb hX hbl hbA hL hw (j := 6 * q + 5) (by omega) dL_law_1000 ?_
  refine lv_aload_n hx hb dL_law_1001 rfl (lv_at hl 3 rfl) ?_
  refine x_callH (As := [.ref (ad 0), .int (xs (6 * q + 1)), .int (xs (6 * q + 2)), .int (xs (6 * q + 3)), .int (xs (6 * q + 4)), .int (xs (6 * q + 5)), .ref (ad 88)]) (rest := []) hC hf_offer hiniL hw hA hT (hH _) hRH hl.1 (Nat.le_of_ble_eq_true rfl) dL_law_1002 ⟨by omega, by omega⟩ rfl (fun u H locs hu hw => ?_)
  refine lv_istore (lv' := [(5, .int (nI k)), (0, .ref b), (1, .ref (ad 0)), (2, .ref (ad 77)), (3, .ref (ad 88)), (4, .int (nI (6 * q)))]) hx hb dL_law_1005 hl (by decide) rfl (fun ls hl => ?_)
  refine lv_aload_n hx hb dL_law_1007 rfl (lv_at hl 3 rfl) ?_
  refine lv_aload_n hx hb dL_law_1008 rfl (lv_at hl 1 rfl) ?_
  refine lv_iload hx hb dL_law_1009 (lv_at hl 5 rfl) ?_
  refine lv_iconst (v := nI 1) hx hb dL_law_1011 (by decide) ?_
  refine t_iadd hx hb dL_law_1012 (v := nI (6 * q + 1)) (nI_add _ _) ?_
  refine x_sld hx hb hX hbl hbA hL hw (j := 6 * q + 1) (by omega) dL_law_1013 ?_
  refine lv_aload_n hx hb dL_law_1014 rfl (lv_at hl 1 rfl) ?_
  refine lv_iload hx hb dL_law_1015 (lv_at hl 5 rfl) ?_
  refine lv_iconst (v := nI 2) hx hb dL_law_1017 (by decide) ?_
  refine t_iadd hx hb dL_law_1018 (v := nI (6 * q + 2)) (nI_add _ _) ?_
  refine x_sld hx hb hX hbl hbA hL hw (j := 6 * q + 2) (by omega) dL_law_1019 ?_
  refine lv_aload_n hx hb dL_law_1020 rfl (lv_at hl 1 rfl) ?_
  refine lv_iload hx hb dL_law_1021 (lv_at hl 5 rfl) ?_
  refine lv_iconst (v := nI 3) hx hb dL_law_1023 (by decide) ?_
  refine t_iadd hx hb dL_law_1024 (v := nI (6 * q + 3)) (nI_add _ _) ?_
  refine x_sld hx hb hX hbl hbA hL hw (j := 6 * q + 3) (by omega) dL_law_1025 ?_
  refine lv_aload_n hx hb dL_law_1026 rfl (lv_at hl 1 rfl) ?_
  refine lv_iload hx hb dL_law_1027 (lv_at hl 5 rfl) ?_
  refine lv_iconst (v := nI 4) hx hb dL_law_1029 (by decide) ?_
  refine t_iadd hx hb dL_law_1030 (v := nI (6 * q + 4)) (nI_add _ _) ?_
  refine x_sld hx hb hX hbl hbA hL hw (j := 6 * q + 4) (by omega) dL_law_1031 ?_
  refine lv_aload_n hx hb dL_law_1032 rfl (lv_at hl 1 rfl) ?_
  refine lv_iload hx hb dL_law_1033 (lv_at hl 5 rfl) ?_
  refine lv_iconst (v := nI 5) hx hb dL_law_1035 (by decide) ?_
  refine t_iadd hx hb dL_law_1036 (v := nI (6 * q + 5)) (nI_add _ _) ?_
  refine x_sld hx hb hX hbl hbA hL hw (j := 6 * q + 5) (by omega) dL_law_1037 ?_
  obtain ⟨fs7, h7⟩ := h77 u hu
  refine x_callW1 (As := [.int (xs (6 * q + 1)), .int (xs (6 * q + 2)), .int (xs (6 * q + 3)), .int (xs (6 * q + 4)), .int (xs (6 * q + 5))]) (rest := []) hC vf_L_136 hw hA (by decide) h7 rfl rfl (hG u _ hu) hRG hl.1 (Nat.le_of_ble_eq_true rfl) dL_law_1038 ⟨by omega, by omega⟩ rfl (fun u2 H locs hu2 hw => ?_)
  obtain ⟨⟨n7, t7, cl7, qu7, en7, kp7, hs7, g7⟩, ⟨ofn, g8, hval⟩, hinv⟩ := hE u u2 hu hu2
  refine lv_istore (lv' := [(6, .int (nI bn)), (5, .int (nI k)), (0, .ref b), (1, .ref (ad 0)), (2, .ref (ad 77)), (3, .ref (ad 88)), (4, .int (nI (6 * q)))]) hx hb dL_law_1041 hl (by decide) rfl (fun ls hl => ?_)
  refine lv_aload_n hx hb dL_law_1043 rfl (lv_at hl 4 rfl) ?_
  refine x_callW1 (As := []) (rest := []) hC vf_L_89 hw hA (by decide) g7 rfl rfl (k5_thrown l _ _ _ _ _ _ _ _ g7) ⟨rfl, rfl, Nat.le_of_ble_eq_true rfl, Nat.le_of_ble_eq_true rfl⟩ hl.1 (Nat.le_of_ble_eq_true rfl) dL_law_1044 ⟨by omega, by omega⟩ rfl (fun u3 H locs hu3 hw => ?_)
  rw [hu3] at hw
  refine lv_iload hx hb dL_law_1047 (lv_at hl 1 rfl) ?_
  refine lv_icmp_eq (tgt := 1054) hx hb dL_law_1049 (by decide) (fun q1 => ?_) (fun q1 => absurd rfl q1)
  refine lv_iload hx hb dL_law_1054 (lv_at hl 1 rfl) ?_
  refine lv_if_ne (tgt := 1078) hx hb dL_law_1056 (by decide) (fun q2 => ?_) (fun q2 => ?_)
  · rw [nI_z (by omega)] at q2
    refine lv_goto (tgt := 1347) hx hb dL_law_1078 (by decide) ?_
    refine W.widen (k := cells + 1) (n := slots + 6) (by omega) (by omega) ?_
    exact kx u2 H locs ls hinv hw (lv_sub hl [2, 3, 4, 5, 6] rfl)
  · rw [nI_z (by omega)] at q2
    have hv0 := hval (by omega)
    refine lv_aload_n hx hb dL_law_1059 rfl (lv_at hl 5 rfl) ?_
    refine lv_iconst (v := nI 0) hx hb dL_law_1060 (by decide) ?_
    refine x_lald hx hb hw (by decide) 1 g8 rfl (j := 0) (by decide) (by decide) rfl dL_law_1061 ?_
    refine lv_iload hx hb dL_law_1062 (lv_at hl 0 rfl) ?_
    refine lv_if_eq (tgt := 1071) hx hb dL_law_1064 (by decide) (fun q3 => ?_) (fun q3 => ?_)
    · rw [nI_z (by omega)] at q3
      have hbv : bn = 0 := by omega
      refine lv_lconst (v := lN 0) hx hb dL_law_1071 (by decide) ?_
      refine W.lcmp hx hb dL_law_1072 ?_
      refine lv_if_eq (tgt := 1078) hx hb dL_law_1073 (by decide) (fun q4 => ?_) (fun q4 => absurd (by rw [lg_cmp_eq, hv0, hbv]) q4)
      refine lv_goto (tgt := 1347) hx hb dL_law_1078 (by decide) ?_
      refine W.widen (k := cells + 1) (n := slots + 6) (by omega) (by omega) ?_
      exact kx u2 H locs ls hinv hw (lv_sub hl [2, 3, 4, 5, 6] rfl)
    · rw [nI_z (by omega)] at q3
      have hbv : bn = 1 := by omega
      refine lv_lconst (v := lN 1) hx hb dL_law_1067 (by decide) ?_
      refine lv_goto (tgt := 1072) hx hb dL_law_1068 (by decide) ?_
      refine W.lcmp hx hb dL_law_1072 ?_
      refine lv_if_eq (tgt := 1078) hx hb dL_law_1073 (by decide) (fun q4 => ?_) (fun q4 => absurd (by rw [lg_cmp_eq, hv0, hbv]) q4)
      refine lv_goto (tgt := 1347) hx hb dL_law_1078 (by decide) ?_
      refine W.widen (k := cells + 1) (n := slots + 6) (by omega) (by omega) ?_
      exact kx u2 H locs ls hinv hw (lv_sub hl [2, 3, 4, 5, 6] rfl)
set_option maxHeartbeats 4000000 in
set_option maxRecDepth 100000 in
theorem lk_value {l : Launch} {p : Program} {e : Env} {s : State} {m : MethodId} {below : List Frame} {meth : Method} {c : Code} {Q : State → Prop} {D : va_G} {cI cJ cZ cD : ClassId} {ad : Nat → Nat} {sa : Nat → Nat} {A : Nat → Prop} {H : Heap} {locs : List Loc} {cells slots : Nat} {ls : Array Slot} {b L : Nat} {xs : Nat → Int32} {w : Nat → va_E} (hC : CallFix p m c cL_law 8 s #[.ref b] wsL_law RL) (hiniL : (Cond.initialized RL).before #[.ref b] s = true) (hX : va_X b L xs s s.heap) (hbl : b < s.heap.size) (hbA : ¬ A b) (hA : ∀ q, s.heap.size ≤ q → A q) (hT : TH sa A s) (q : Nat) (hq : 6 * q + 6 ≤ L) (hL : L ≤ 3072) (hce : cells + 1 ≤ room_1.cells ∧ slots + 6 ≤ room_1.slots) (hw : WW D vwCl (tyL cI cJ cZ cD) A s.heap ad 89 w s H locs) (hl : lv_has ls 8 [(0, .ref b), (1, .ref (ad 0)), (2, .ref (ad 77)), (3, .ref (ad 88)), (4, .int (nI (6 * q)))]) (k : Nat) (hk : k ≤ 2) (bv : Int32) {rmH rmM : Room} {mc ms : Nat} (hmc : mc ≤ 1) (hms : ms ≤ 6) {PH : (Nat → va_E) → Prop} {PG : (Nat → va_E) → (Nat → va_E) → Prop} (hH : ∀ sz, MH l yL_value (.codeWith yL_value cL_value 4 (some .int) [(0, 9, 12, 19), (0, 9, 15, 13)]) rmH [.ref (ad 0), .int (xs (6 * q + 1)), .ref (ad 88)] D (tyL cI cJ cZ cD) ad 89 w sz sa (some (.int (nI k))) PH mc ms) (hRH : rmH.cells = mc ∧ rmH.slots = ms ∧ rmH.frames + 1 ≤ room_1.frames ∧ 8 + (4 + 11) + rmH.locals ≤ room_1.locals) (h77 : ∀ u, PH u → ∃ fs, u 77 = .inr (4, fs)) (hG : ∀ u sz, PH u → MW l yX5_value (.code yX5_value cX5_value 4 (some .int)) rmM [.ref (ad 77), .int (xs (6 * q + 1))] D (tyL cI cJ cZ cD) ad 89 u sz (some (.int bv)) (PG u)) (hRG : RF room_1 rmM 0 0 4) (hE : ∀ u u2, PH u → PG u u2 → INVk ad cI cJ cZ cD u2 k bv.toInt64)
    (kx : ∀ (w : Nat → va_E) (H : Heap) (locs : List Loc) (ls : Array Slot), INV ad cI cJ cZ cD w → WW D vwCl (tyL cI cJ cZ cD) A s.heap ad 89 w s H locs → lv_has ls 8 [(0, .ref b), (1, .ref (ad 0)), (2, .ref (ad 77)), (3, .ref (ad 88)), (4, .int (nI (6 * q)))] → W p l e room_1 s m #[.ref b] below meth c H locs (cells + 1) (slots + 6) Q (F0 m 1347 ls [])) : W p l e room_1 s m #[.ref b] below meth c H locs cells slots Q (F0 m 1081 ls []) := by
  obtain ⟨hx, hb, hml, hown, hts⟩ := id hC
  refine lv_aload_n hx hb dL_law_1081 rfl (lv_at hl 1 rfl) ?_
  refine lv_aload_n hx hb dL_law_1082 rfl (lv_at hl 0 rfl) ?_
  refine lv_iload hx hb dL_law_1083 (lv_at hl 4 rfl) ?_
  refine lv_iconst (v := nI 1) hx hb dL_law_1085 (by decide) ?_
  refine t_iadd hx hb dL_law_1086 (v := nI (6 * q + 1)) (nI_add _ _) ?_
  refine x_sld hx hb hX hbl hbA hL hw (j := 6 * q + 1) (by omega) dL_law_1087 ?_
  refine lv_aload_n hx hb dL_law_1088 rfl (lv_at hl 3 rfl) ?_
  refine x_callH (As := [.ref (ad 0), .int (xs (6 * q + 1)), .ref (ad 88)]) (rest := []) hC hf_value hiniL hw hA hT (hH _) hRH hl.1 (Nat.le_of_ble_eq_true rfl) dL_law_1089 ⟨by omega, by omega⟩ rfl (fun u H locs hu hw => ?_)
  refine lv_istore (lv' := [(5, .int (nI k)), (0, .ref b), (1, .ref (ad 0)), (2, .ref (ad 77)), (3, .ref (ad 88)), (4, .int (nI (6 * q)))]) hx hb dL_law_1092 hl (by decide) rfl (fun ls hl => ?_)
  refine lv_aload_n hx hb dL_law_1094 rfl (lv_at hl 3 rfl) ?_
  refine lv_aload_n hx hb dL_law_1095 rfl (lv_at hl 1 rfl) ?_
  refine lv_iload hx hb dL_law_1096 (lv_at hl 5 rfl) ?_
  refine lv_iconst (v := nI 1) hx hb dL_law_1098 (by decide) ?_
  refine t_iadd hx hb dL_law_1099 (v := nI (6 * q + 1)) (nI_add _ _) ?_
  refine x_sld hx hb hX hbl hbA hL hw (j := 6 * q + 1) (by omega) dL_law_1100 ?_
  obtain ⟨fs7, h7⟩ := h77 u hu
  refine x_callW1 (As := [.int (xs (6 * q + 1))]) (rest := []) hC vf_L_139 hw hA (by decide) h7 rfl rfl (hG u _ hu) hRG hl.1 (Nat.le_of_ble_eq_true rfl) dL_law_1101 ⟨by omega, by omega⟩ rfl (fun u2 H locs hu2 hw => ?_)
  obtain ⟨⟨n7, t7, cl7, qu7, en7, kp7, hs7, g7⟩, ⟨ofn, g8, hval⟩, hinv⟩ := hE u u2 hu hu2
  refine lv_istore (lv' := [(6, .int bv), (5, .int (nI k)), (0, .ref b), (1, .ref (ad 0)), (2, .ref (ad 77)), (3, .ref (ad 88)), (4, .int (nI (6 * q)))]) hx hb dL_law_1104 hl (by decide) rfl (fun ls hl => ?_)
  refine lv_aload_n hx hb dL_law_1106 rfl (lv_at hl 4 rfl) ?_
  refine x_callW1 (As := []) (rest := []) hC vf_L_89 hw hA (by decide) g7 rfl rfl (k5_thrown l _ _ _ _ _ _ _ _ g7) ⟨rfl, rfl, Nat.le_of_ble_eq_true rfl, Nat.le_of_ble_eq_true rfl⟩ hl.1 (Nat.le_of_ble_eq_true rfl) dL_law_1107 ⟨by omega, by omega⟩ rfl (fun u3 H locs hu3 hw => ?_)
  rw [hu3] at hw
  refine lv_iload hx hb dL_law_1110 (lv_at hl 1 rfl) ?_
  refine lv_icmp_eq (tgt := 1117) hx hb dL_law_1112 (by decide) (fun q1 => ?_) (fun q1 => absurd rfl q1)
  refine lv_iload hx hb dL_law_1117 (lv_at hl 1 rfl) ?_
  refine lv_if_ne (tgt := 1134) hx hb dL_law_1119 (by decide) (fun q2 => ?_) (fun q2 => ?_)
  · rw [nI_z (by omega)] at q2
    refine lv_goto (tgt := 1347) hx hb dL_law_1134 (by decide) ?_
    refine W.widen (k := cells + 1) (n := slots + 6) (by omega) (by omega) ?_
    exact kx u2 H locs ls hinv hw (lv_sub hl [2, 3, 4, 5, 6] rfl)
  · rw [nI_z (by omega)] at q2
    have hv0 := hval (by omega)
    refine lv_aload_n hx hb dL_law_1122 rfl (lv_at hl 5 rfl) ?_
    refine lv_iconst (v := nI 0) hx hb dL_law_1123 (by decide) ?_
    refine x_lald hx hb hw (by decide) 1 g8 rfl (j := 0) (by decide) (by decide) rfl dL_law_1124 ?_
    refine lv_iload hx hb dL_law_1125 (lv_at hl 0 rfl) ?_
    refine lv_i2l hx hb dL_law_1127 rfl ?_
    refine W.lcmp hx hb dL_law_1128 ?_
    refine lv_if_eq (tgt := 1134) hx hb dL_law_1129 (by decide) (fun q4 => ?_) (fun q4 => absurd (by rw [lg_cmp_eq, hv0]) q4)
    refine lv_goto (tgt := 1347) hx hb dL_law_1134 (by decide) ?_
    refine W.widen (k := cells + 1) (n := slots + 6) (by omega) (by omega) ?_
    exact kx u2 H locs ls hinv hw (lv_sub hl [2, 3, 4, 5, 6] rfl)
set_option maxHeartbeats 4000000 in
set_option maxRecDepth 100000 in
theorem lk_publish {l : Launch} {p : Program} {e : Env} {s : State} {m : MethodId} {below : List Frame} {meth : Method} {c : Code} {Q : State → Prop} {D : va_G} {cI cJ cZ cD : ClassId} {ad : Nat → Nat} {sa : Nat → Nat} {A : Nat → Prop} {H : Heap} {locs : List Loc} {cells slots : Nat} {ls : Array Slot} {b L : Nat} {xs : Nat → Int32} {w : Nat → va_E} (hC : CallFix p m c cL_law 8 s #[.ref b] wsL_law RL) (hiniL : (Cond.initialized RL).before #[.ref b] s = true) (hX : va_X b L xs s s.heap) (hbl : b < s.heap.size) (hbA : ¬ A b) (hA : ∀ q, s.heap.size ≤ q → A q) (hT : TH sa A s) (q : Nat) (hq : 6 * q + 6 ≤ L) (hL : L ≤ 3072) (hce : cells + 1 ≤ room_1.cells ∧ slots + 6 ≤ room_1.slots) (hw : WW D vwCl (tyL cI cJ cZ cD) A s.heap ad 89 w s H locs) (hl : lv_has ls 8 [(0, .ref b), (1, .ref (ad 0)), (2, .ref (ad 77)), (3, .ref (ad 88)), (4, .int (nI (6 * q)))]) (k : Nat) (hk : k ≤ 2) (bv : Int32) {rmH rmM : Room} {mc ms : Nat} (hmc : mc ≤ 1) (hms : ms ≤ 6) {PH : (Nat → va_E) → Prop} {PG : (Nat → va_E) → (Nat → va_E) → Prop} (hH : ∀ sz, MH l yL_publish (.codeWith yL_publish cL_publish 3 (some .int) [(0, 8, 11, 19), (0, 8, 14, 67)]) rmH [.ref (ad 0), .ref (ad 88)] D (tyL cI cJ cZ cD) ad 89 w sz sa (some (.int (nI k))) PH mc ms) (hRH : rmH.cells = mc ∧ rmH.slots = ms ∧ rmH.frames + 1 ≤ room_1.frames ∧ 8 + (3 + 11) + rmH.locals ≤ room_1.locals) (h77 : ∀ u, PH u → ∃ fs, u 77 = .inr (4, fs)) (hG : ∀ u sz, PH u → MW l yX5_publish (.code yX5_publish cX5_publish 5 (some .int)) rmM [.ref (ad 77)] D (tyL cI cJ cZ cD) ad 89 u sz (some (.int bv)) (PG u)) (hRG : RF room_1 rmM 0 0 5) (hE : ∀ u u2, PH u → PG u u2 → INVk ad cI cJ cZ cD u2 k bv.toInt64)
    (kx : ∀ (w : Nat → va_E) (H : Heap) (locs : List Loc) (ls : Array Slot), INV ad cI cJ cZ cD w → WW D vwCl (tyL cI cJ cZ cD) A s.heap ad 89 w s H locs → lv_has ls 8 [(0, .ref b), (1, .ref (ad 0)), (2, .ref (ad 77)), (3, .ref (ad 88)), (4, .int (nI (6 * q)))] → W p l e room_1 s m #[.ref b] below meth c H locs (cells + 1) (slots + 6) Q (F0 m 1347 ls [])) : W p l e room_1 s m #[.ref b] below meth c H locs cells slots Q (F0 m 1137 ls []) := by
  obtain ⟨hx, hb, hml, hown, hts⟩ := id hC
  refine lv_aload_n hx hb dL_law_1137 rfl (lv_at hl 1 rfl) ?_
  refine lv_aload_n hx hb dL_law_1138 rfl (lv_at hl 3 rfl) ?_
  refine x_callH (As := [.ref (ad 0), .ref (ad 88)]) (rest := []) hC hf_publish hiniL hw hA hT (hH _) hRH hl.1 (Nat.le_of_ble_eq_true rfl) dL_law_1139 ⟨by omega, by omega⟩ rfl (fun u H locs hu hw => ?_)
  refine lv_istore (lv' := [(5, .int (nI k)), (0, .ref b), (1, .ref (ad 0)), (2, .ref (ad 77)), (3, .ref (ad 88)), (4, .int (nI (6 * q)))]) hx hb dL_law_1142 hl (by decide) rfl (fun ls hl => ?_)
  refine lv_aload_n hx hb dL_law_1144 rfl (lv_at hl 3 rfl) ?_
  obtain ⟨fs7, h7⟩ := h77 u hu
  refine x_callW1 (As := []) (rest := []) hC vf_L_142 hw hA (by decide) h7 rfl rfl (hG u _ hu) hRG hl.1 (Nat.le_of_ble_eq_true rfl) dL_law_1145 ⟨by omega, by omega⟩ rfl (fun u2 H locs hu2 hw => ?_)
  obtain ⟨⟨n7, t7, cl7, qu7, en7, kp7, hs7, g7⟩, ⟨ofn, g8, hval⟩, hinv⟩ := hE u u2 hu hu2
  refine lv_istore (lv' := [(6, .int bv), (5, .int (nI k)), (0, .ref b), (1, .ref (ad 0)), (2, .ref (ad 77)), (3, .ref (ad 88)), (4, .int (nI (6 * q)))]) hx hb dL_law_1148 hl (by decide) rfl (fun ls hl => ?_)
  refine lv_aload_n hx hb dL_law_1150 rfl (lv_at hl 4 rfl) ?_
  refine x_callW1 (As := []) (rest := []) hC vf_L_89 hw hA (by decide) g7 rfl rfl (k5_thrown l _ _ _ _ _ _ _ _ g7) ⟨rfl, rfl, Nat.le_of_ble_eq_true rfl, Nat.le_of_ble_eq_true rfl⟩ hl.1 (Nat.le_of_ble_eq_true rfl) dL_law_1151 ⟨by omega, by omega⟩ rfl (fun u3 H locs hu3 hw => ?_)
  rw [hu3] at hw
  refine lv_iload hx hb dL_law_1154 (lv_at hl 1 rfl) ?_
  refine lv_icmp_eq (tgt := 1161) hx hb dL_law_1156 (by decide) (fun q1 => ?_) (fun q1 => absurd rfl q1)
  refine lv_iload hx hb dL_law_1161 (lv_at hl 1 rfl) ?_
  refine lv_if_ne (tgt := 1178) hx hb dL_law_1163 (by decide) (fun q2 => ?_) (fun q2 => ?_)
  · rw [nI_z (by omega)] at q2
    refine lv_goto (tgt := 1347) hx hb dL_law_1178 (by decide) ?_
    refine W.widen (k := cells + 1) (n := slots + 6) (by omega) (by omega) ?_
    exact kx u2 H locs ls hinv hw (lv_sub hl [2, 3, 4, 5, 6] rfl)
  · rw [nI_z (by omega)] at q2
    have hv0 := hval (by omega)
    refine lv_aload_n hx hb dL_law_1166 rfl (lv_at hl 5 rfl) ?_
    refine lv_iconst (v := nI 0) hx hb dL_law_1167 (by decide) ?_
    refine x_lald hx hb hw (by decide) 1 g8 rfl (j := 0) (by decide) (by decide) rfl dL_law_1168 ?_
    refine lv_iload hx hb dL_law_1169 (lv_at hl 0 rfl) ?_
    refine lv_i2l hx hb dL_law_1171 rfl ?_
    refine W.lcmp hx hb dL_law_1172 ?_
    refine lv_if_eq (tgt := 1178) hx hb dL_law_1173 (by decide) (fun q4 => ?_) (fun q4 => absurd (by rw [lg_cmp_eq, hv0]) q4)
    refine lv_goto (tgt := 1347) hx hb dL_law_1178 (by decide) ?_
    refine W.widen (k := cells + 1) (n := slots + 6) (by omega) (by omega) ?_
    exact kx u2 H locs ls hinv hw (lv_sub hl [2, 3, 4, 5, 6] rfl)
set_option maxHeartbeats 4000000 in
set_option maxRecDepth 100000 in
theorem lk_ended {l : Launch} {p : Program} {e : Env} {s : State} {m : MethodId} {below : List Frame} {meth : Method} {c : Code} {Q : State → Prop} {D : va_G} {cI cJ cZ cD : ClassId} {ad : Nat → Nat} {sa : Nat → Nat} {A : Nat → Prop} {H : Heap} {locs : List Loc} {cells slots : Nat} {ls : Array Slot} {b L : Nat} {xs : Nat → Int32} {w : Nat → va_E} (hC : CallFix p m c cL_law 8 s #[.ref b] wsL_law RL) (hiniL : (Cond.initialized RL).before #[.ref b] s = true) (hX : va_X b L xs s s.heap) (hbl : b < s.heap.size) (hbA : ¬ A b) (hA : ∀ q, s.heap.size ≤ q → A q) (hT : TH sa A s) (q : Nat) (hq : 6 * q + 6 ≤ L) (hL : L ≤ 3072) (hce : cells + 1 ≤ room_1.cells ∧ slots + 6 ≤ room_1.slots) (hw : WW D vwCl (tyL cI cJ cZ cD) A s.heap ad 89 w s H locs) (hl : lv_has ls 8 [(0, .ref b), (1, .ref (ad 0)), (2, .ref (ad 77)), (3, .ref (ad 88)), (4, .int (nI (6 * q)))]) (k : Nat) (hk : k ≤ 2) (bv : Int64) {rmH rmM : Room} {mc ms : Nat} (hmc : mc ≤ 1) (hms : ms ≤ 6) {PH : (Nat → va_E) → Prop} {PG : (Nat → va_E) → (Nat → va_E) → Prop} (hH : ∀ sz, MH l yL_ended (.codeWith yL_ended cL_ended 4 (some .int) [(0, 8, 11, 13), (0, 8, 14, 19)]) rmH [.ref (ad 0), .int (xs (6 * q + 1)), .ref (ad 88)] D (tyL cI cJ cZ cD) ad 89 w sz sa (some (.int (nI k))) PH mc ms) (hRH : rmH.cells = mc ∧ rmH.slots = ms ∧ rmH.frames + 1 ≤ room_1.frames ∧ 8 + (4 + 11) + rmH.locals ≤ room_1.locals) (h77 : ∀ u, PH u → ∃ fs, u 77 = .inr (4, fs)) (hG : ∀ u sz, PH u → MW l yX5_ended (.code yX5_ended cX5_ended 3 (some .long)) rmM [.ref (ad 77), .int (xs (6 * q + 1))] D (tyL cI cJ cZ cD) ad 89 u sz (some (.long bv)) (PG u)) (hRG : RF room_1 rmM 0 0 3) (hE : ∀ u u2, PH u → PG u u2 → INVk ad cI cJ cZ cD u2 k bv)
    (kx : ∀ (w : Nat → va_E) (H : Heap) (locs : List Loc) (ls : Array Slot), INV ad cI cJ cZ cD w → WW D vwCl (tyL cI cJ cZ cD) A s.heap ad 89 w s H locs → lv_has ls 8 [(0, .ref b), (1, .ref (ad 0)), (2, .ref (ad 77)), (3, .ref (ad 88)), (4, .int (nI (6 * q)))] → W p l e room_1 s m #[.ref b] below meth c H locs (cells + 1) (slots + 6) Q (F0 m 1347 ls [])) : W p l e room_1 s m #[.ref b] below meth c H locs cells slots Q (F0 m 1181 ls []) := by
  obtain ⟨hx, hb, hml, hown, hts⟩ := id hC
  refine lv_aload_n hx hb dL_law_1181 rfl (lv_at hl 1 rfl) ?_
  refine lv_aload_n hx hb dL_law_1182 rfl (lv_at hl 0 rfl) ?_
  refine lv_iload hx hb dL_law_1183 (lv_at hl 4 rfl) ?_
  refine lv_iconst (v := nI 1) hx hb dL_law_1185 (by decide) ?_
  refine t_iadd hx hb dL_law_1186 (v := nI (6 * q + 1)) (nI_add _ _) ?_
  refine x_sld hx hb hX hbl hbA hL hw (j := 6 * q + 1) (by omega) dL_law_1187 ?_
  refine lv_aload_n hx hb dL_law_1188 rfl (lv_at hl 3 rfl) ?_
  refine x_callH (As := [.ref (ad 0), .int (xs (6 * q + 1)), .ref (ad 88)]) (rest := []) hC hf_ended hiniL hw hA hT (hH _) hRH hl.1 (Nat.le_of_ble_eq_true rfl) dL_law_1189 ⟨by omega, by omega⟩ rfl (fun u H locs hu hw => ?_)
  refine lv_istore (lv' := [(5, .int (nI k)), (0, .ref b), (1, .ref (ad 0)), (2, .ref (ad 77)), (3, .ref (ad 88)), (4, .int (nI (6 * q)))]) hx hb dL_law_1192 hl (by decide) rfl (fun ls hl => ?_)
  refine lv_aload_n hx hb dL_law_1194 rfl (lv_at hl 3 rfl) ?_
  refine lv_aload_n hx hb dL_law_1195 rfl (lv_at hl 1 rfl) ?_
  refine lv_iload hx hb dL_law_1196 (lv_at hl 5 rfl) ?_
  refine lv_iconst (v := nI 1) hx hb dL_law_1198 (by decide) ?_
  refine t_iadd hx hb dL_law_1199 (v := nI (6 * q + 1)) (nI_add _ _) ?_
  refine x_sld hx hb hX hbl hbA hL hw (j := 6 * q + 1) (by omega) dL_law_1200 ?_
  obtain ⟨fs7, h7⟩ := h77 u hu
  refine x_callW1 (As := [.int (xs (6 * q + 1))]) (rest := []) hC vf_L_145 hw hA (by decide) h7 rfl rfl (hG u _ hu) hRG hl.1 (Nat.le_of_ble_eq_true rfl) dL_law_1201 ⟨by omega, by omega⟩ rfl (fun u2 H locs hu2 hw => ?_)
  obtain ⟨⟨n7, t7, cl7, qu7, en7, kp7, hs7, g7⟩, ⟨ofn, g8, hval⟩, hinv⟩ := hE u u2 hu hu2
  refine lv_lstore (lv' := [(6, .long bv), (5, .int (nI k)), (0, .ref b), (1, .ref (ad 0)), (2, .ref (ad 77)), (3, .ref (ad 88)), (4, .int (nI (6 * q)))]) hx hb dL_law_1204 hl (by decide) rfl (fun ls hl => ?_)
  refine lv_aload_n hx hb dL_law_1206 rfl (lv_at hl 4 rfl) ?_
  refine x_callW1 (As := []) (rest := []) hC vf_L_89 hw hA (by decide) g7 rfl rfl (k5_thrown l _ _ _ _ _ _ _ _ g7) ⟨rfl, rfl, Nat.le_of_ble_eq_true rfl, Nat.le_of_ble_eq_true rfl⟩ hl.1 (Nat.le_of_ble_eq_true rfl) dL_law_1207 ⟨by omega, by omega⟩ rfl (fun u3 H locs hu3 hw => ?_)
  rw [hu3] at hw
  refine lv_iload hx hb dL_law_1210 (lv_at hl 1 rfl) ?_
  refine lv_icmp_eq (tgt := 1217) hx hb dL_law_1212 (by decide) (fun q1 => ?_) (fun q1 => absurd rfl q1)
  refine lv_iload hx hb dL_law_1217 (lv_at hl 1 rfl) ?_
  refine lv_if_ne (tgt := 1233) hx hb dL_law_1219 (by decide) (fun q2 => ?_) (fun q2 => ?_)
  · rw [nI_z (by omega)] at q2
    refine lv_goto (tgt := 1347) hx hb dL_law_1233 (by decide) ?_
    refine W.widen (k := cells + 1) (n := slots + 6) (by omega) (by omega) ?_
    exact kx u2 H locs ls hinv hw (lv_sub hl [2, 3, 4, 5, 6] rfl)
  · rw [nI_z (by omega)] at q2
    have hv0 := hval (by omega)
    refine lv_aload_n hx hb dL_law_1222 rfl (lv_at hl 5 rfl) ?_
    refine lv_iconst (v := nI 0) hx hb dL_law_1223 (by decide) ?_
    refine x_lald hx hb hw (by decide) 1 g8 rfl (j := 0) (by decide) (by decide) rfl dL_law_1224 ?_
    refine lv_lload hx hb dL_law_1225 (lv_at hl 0 rfl) ?_
    refine W.lcmp hx hb dL_law_1227 ?_
    refine lv_if_eq (tgt := 1233) hx hb dL_law_1228 (by decide) (fun q4 => ?_) (fun q4 => absurd (by rw [lg_cmp_eq, hv0]) q4)
    refine lv_goto (tgt := 1347) hx hb dL_law_1233 (by decide) ?_
    refine W.widen (k := cells + 1) (n := slots + 6) (by omega) (by omega) ?_
    exact kx u2 H locs ls hinv hw (lv_sub hl [2, 3, 4, 5, 6] rfl)
set_option maxHeartbeats 4000000 in
set_option maxRecDepth 100000 in
theorem lk_random {l : Launch} {p : Program} {e : Env} {s : State} {m : MethodId} {below : List Frame} {meth : Method} {c : Code} {Q : State → Prop} {D : va_G} {cI cJ cZ cD : ClassId} {ad : Nat → Nat} {sa : Nat → Nat} {A : Nat → Prop} {H : Heap} {locs : List Loc} {cells slots : Nat} {ls : Array Slot} {b L : Nat} {xs : Nat → Int32} {w : Nat → va_E} (hC : CallFix p m c cL_law 8 s #[.ref b] wsL_law RL) (hiniL : (Cond.initialized RL).before #[.ref b] s = true) (hX : va_X b L xs s s.heap) (hbl : b < s.heap.size) (hbA : ¬ A b) (hA : ∀ q, s.heap.size ≤ q → A q) (hT : TH sa A s) (q : Nat) (hq : 6 * q + 6 ≤ L) (hL : L ≤ 3072) (hce : cells + 1 ≤ room_1.cells ∧ slots + 6 ≤ room_1.slots) (hw : WW D vwCl (tyL cI cJ cZ cD) A s.heap ad 89 w s H locs) (hl : lv_has ls 8 [(0, .ref b), (1, .ref (ad 0)), (2, .ref (ad 77)), (3, .ref (ad 88)), (4, .int (nI (6 * q)))]) (k : Nat) (hk : k ≤ 2) (bv : Int64) {rmH rmM : Room} {mc ms : Nat} (hmc : mc ≤ 1) (hms : ms ≤ 6) {PH : (Nat → va_E) → Prop} {PG : (Nat → va_E) → (Nat → va_E) → Prop} (hH : ∀ sz, MH l yL_random (.codeWith yL_random cL_random 4 (some .int) [(0, 8, 11, 13), (0, 8, 14, 19)]) rmH [.ref (ad 0), .int (xs (6 * q + 1)), .ref (ad 88)] D (tyL cI cJ cZ cD) ad 89 w sz sa (some (.int (nI k))) PH mc ms) (hRH : rmH.cells = mc ∧ rmH.slots = ms ∧ rmH.frames + 1 ≤ room_1.frames ∧ 8 + (4 + 11) + rmH.locals ≤ room_1.locals) (h77 : ∀ u, PH u → ∃ fs, u 77 = .inr (4, fs)) (hG : ∀ u sz, PH u → MW l yX5_random (.code yX5_random cX5_random 3 (some .long)) rmM [.ref (ad 77), .int (xs (6 * q + 1))] D (tyL cI cJ cZ cD) ad 89 u sz (some (.long bv)) (PG u)) (hRG : RF room_1 rmM 0 0 3) (hE : ∀ u u2, PH u → PG u u2 → INVk ad cI cJ cZ cD u2 k bv)
    (kx : ∀ (w : Nat → va_E) (H : Heap) (locs : List Loc) (ls : Array Slot), INV ad cI cJ cZ cD w → WW D vwCl (tyL cI cJ cZ cD) A s.heap ad 89 w s H locs → lv_has ls 8 [(0, .ref b), (1, .ref (ad 0)), (2, .ref (ad 77)), (3, .ref (ad 88)), (4, .int (nI (6 * q)))] → W p l e room_1 s m #[.ref b] below meth c H locs (cells + 1) (slots + 6) Q (F0 m 1347 ls [])) : W p l e room_1 s m #[.ref b] below meth c H locs cells slots Q (F0 m 1236 ls []) := by
  obtain ⟨hx, hb, hml, hown, hts⟩ := id hC
  refine lv_aload_n hx hb dL_law_1236 rfl (lv_at hl 1 rfl) ?_
  refine lv_aload_n hx hb dL_law_1237 rfl (lv_at hl 0 rfl) ?_
  refine lv_iload hx hb dL_law_1238 (lv_at hl 4 rfl) ?_
  refine lv_iconst (v := nI 1) hx hb dL_law_1240 (by decide) ?_
  refine t_iadd hx hb dL_law_1241 (v := nI (6 * q + 1)) (nI_add _ _) ?_
  refine x_sld hx hb hX hbl hbA hL hw (j := 6 * q + 1) (by omega) dL_law_1242 ?_
  refine lv_aload_n hx hb dL_law_1243 rfl (lv_at hl 3 rfl) ?_
  refine x_callH (As := [.ref (ad 0), .int (xs (6 * q + 1)), .ref (ad 88)]) (rest := []) hC hf_random hiniL hw hA hT (hH _) hRH hl.1 (Nat.le_of_ble_eq_true rfl) dL_law_1244 ⟨by omega, by omega⟩ rfl (fun u H locs hu hw => ?_)
  refine lv_istore (lv' := [(5, .int (nI k)), (0, .ref b), (1, .ref (ad 0)), (2, .ref (ad 77)), (3, .ref (ad 88)), (4, .int (nI (6 * q)))]) hx hb dL_law_1247 hl (by decide) rfl (fun ls hl => ?_)
  refine lv_aload_n hx hb dL_law_1249 rfl (lv_at hl 3 rfl) ?_
  refine lv_aload_n hx hb dL_law_1250 rfl (lv_at hl 1 rfl) ?_
  refine lv_iload hx hb dL_law_1251 (lv_at hl 5 rfl) ?_
  refine lv_iconst (v := nI 1) hx hb dL_law_1253 (by decide) ?_
  refine t_iadd hx hb dL_law_1254 (v := nI (6 * q + 1)) (nI_add _ _) ?_
  refine x_sld hx hb hX hbl hbA hL hw (j := 6 * q + 1) (by omega) dL_law_1255 ?_
  obtain ⟨fs7, h7⟩ := h77 u hu
  refine x_callW1 (As := [.int (xs (6 * q + 1))]) (rest := []) hC vf_L_148 hw hA (by decide) h7 rfl rfl (hG u _ hu) hRG hl.1 (Nat.le_of_ble_eq_true rfl) dL_law_1256 ⟨by omega, by omega⟩ rfl (fun u2 H locs hu2 hw => ?_)
  obtain ⟨⟨n7, t7, cl7, qu7, en7, kp7, hs7, g7⟩, ⟨ofn, g8, hval⟩, hinv⟩ := hE u u2 hu hu2
  refine lv_lstore (lv' := [(6, .long bv), (5, .int (nI k)), (0, .ref b), (1, .ref (ad 0)), (2, .ref (ad 77)), (3, .ref (ad 88)), (4, .int (nI (6 * q)))]) hx hb dL_law_1259 hl (by decide) rfl (fun ls hl => ?_)
  refine lv_aload_n hx hb dL_law_1261 rfl (lv_at hl 4 rfl) ?_
  refine x_callW1 (As := []) (rest := []) hC vf_L_89 hw hA (by decide) g7 rfl rfl (k5_thrown l _ _ _ _ _ _ _ _ g7) ⟨rfl, rfl, Nat.le_of_ble_eq_true rfl, Nat.le_of_ble_eq_true rfl⟩ hl.1 (Nat.le_of_ble_eq_true rfl) dL_law_1262 ⟨by omega, by omega⟩ rfl (fun u3 H locs hu3 hw => ?_)
  rw [hu3] at hw
  refine lv_iload hx hb dL_law_1265 (lv_at hl 1 rfl) ?_
  refine lv_icmp_eq (tgt := 1272) hx hb dL_law_1267 (by decide) (fun q1 => ?_) (fun q1 => absurd rfl q1)
  refine lv_iload hx hb dL_law_1272 (lv_at hl 1 rfl) ?_
  refine lv_if_ne (tgt := 1288) hx hb dL_law_1274 (by decide) (fun q2 => ?_) (fun q2 => ?_)
  · rw [nI_z (by omega)] at q2
    refine lv_goto (tgt := 1347) hx hb dL_law_1288 (by decide) ?_
    refine W.widen (k := cells + 1) (n := slots + 6) (by omega) (by omega) ?_
    exact kx u2 H locs ls hinv hw (lv_sub hl [2, 3, 4, 5, 6] rfl)
  · rw [nI_z (by omega)] at q2
    have hv0 := hval (by omega)
    refine lv_aload_n hx hb dL_law_1277 rfl (lv_at hl 5 rfl) ?_
    refine lv_iconst (v := nI 0) hx hb dL_law_1278 (by decide) ?_
    refine x_lald hx hb hw (by decide) 1 g8 rfl (j := 0) (by decide) (by decide) rfl dL_law_1279 ?_
    refine lv_lload hx hb dL_law_1280 (lv_at hl 0 rfl) ?_
    refine W.lcmp hx hb dL_law_1282 ?_
    refine lv_if_eq (tgt := 1288) hx hb dL_law_1283 (by decide) (fun q4 => ?_) (fun q4 => absurd (by rw [lg_cmp_eq, hv0]) q4)
    refine lv_goto (tgt := 1347) hx hb dL_law_1288 (by decide) ?_
    refine W.widen (k := cells + 1) (n := slots + 6) (by omega) (by omega) ?_
    exact kx u2 H locs ls hinv hw (lv_sub hl [2, 3, 4, 5, 6] rfl)
set_option maxHeartbeats 4000000 in
set_option maxRecDepth 100000 in
theorem lk_about {l : Launch} {p : Program} {e : Env} {s : State} {m : MethodId} {below : List Frame} {meth : Method} {c : Code} {Q : State → Prop} {D : va_G} {cI cJ cZ cD : ClassId} {ad : Nat → Nat} {sa : Nat → Nat} {A : Nat → Prop} {H : Heap} {locs : List Loc} {cells slots : Nat} {ls : Array Slot} {b L : Nat} {xs : Nat → Int32} {w : Nat → va_E} (hC : CallFix p m c cL_law 8 s #[.ref b] wsL_law RL) (hiniL : (Cond.initialized RL).before #[.ref b] s = true) (hX : va_X b L xs s s.heap) (hbl : b < s.heap.size) (hbA : ¬ A b) (hA : ∀ q, s.heap.size ≤ q → A q) (hT : TH sa A s) (q : Nat) (hq : 6 * q + 6 ≤ L) (hL : L ≤ 3072) (hce : cells + 1 ≤ room_1.cells ∧ slots + 6 ≤ room_1.slots) (hw : WW D vwCl (tyL cI cJ cZ cD) A s.heap ad 89 w s H locs) (hl : lv_has ls 8 [(0, .ref b), (1, .ref (ad 0)), (2, .ref (ad 77)), (3, .ref (ad 88)), (4, .int (nI (6 * q)))]) (k : Nat) (hk : k ≤ 2) (bv : Int32) {rmH rmM : Room} {mc ms : Nat} (hmc : mc ≤ 1) (hms : ms ≤ 6) {PH : (Nat → va_E) → Prop} {PG : (Nat → va_E) → (Nat → va_E) → Prop} (hH : ∀ sz, MH l yL_about (.codeWith yL_about cL_about 4 (some .int) [(0, 9, 12, 13)]) rmH [.ref (ad 0), .int (xs (6 * q + 1)), .ref (ad 88)] D (tyL cI cJ cZ cD) ad 89 w sz sa (some (.int (nI k))) PH mc ms) (hRH : rmH.cells = mc ∧ rmH.slots = ms ∧ rmH.frames + 1 ≤ room_1.frames ∧ 8 + (4 + 11) + rmH.locals ≤ room_1.locals) (h77 : ∀ u, PH u → ∃ fs, u 77 = .inr (4, fs)) (hG : ∀ u sz, PH u → MW l yX5_about (.code yX5_about cX5_about 4 (some .int)) rmM [.ref (ad 77), .int (xs (6 * q + 1))] D (tyL cI cJ cZ cD) ad 89 u sz (some (.int bv)) (PG u)) (hRG : RF room_1 rmM 0 0 4) (hE : ∀ u u2, PH u → PG u u2 → INVk ad cI cJ cZ cD u2 k bv.toInt64)
    (kx : ∀ (w : Nat → va_E) (H : Heap) (locs : List Loc) (ls : Array Slot), INV ad cI cJ cZ cD w → WW D vwCl (tyL cI cJ cZ cD) A s.heap ad 89 w s H locs → lv_has ls 8 [(0, .ref b), (1, .ref (ad 0)), (2, .ref (ad 77)), (3, .ref (ad 88)), (4, .int (nI (6 * q)))] → W p l e room_1 s m #[.ref b] below meth c H locs (cells + 1) (slots + 6) Q (F0 m 1347 ls [])) : W p l e room_1 s m #[.ref b] below meth c H locs cells slots Q (F0 m 1291 ls []) := by
  obtain ⟨hx, hb, hml, hown, hts⟩ := id hC
  refine lv_aload_n hx hb dL_law_1291 rfl (lv_at hl 1 rfl) ?_
  refine lv_aload_n hx hb dL_law_1292 rfl (lv_at hl 0 rfl) ?_
  refine lv_iload hx hb dL_law_1293 (lv_at hl 4 rfl) ?_
  refine lv_iconst (v := nI 1) hx hb dL_law_1295 (by decide) ?_
  refine t_iadd hx hb dL_law_1296 (v := nI (6 * q + 1)) (nI_add _ _) ?_
  refine x_sld hx hb hX hbl hbA hL hw (j := 6 * q + 1) (by omega) dL_law_1297 ?_
  refine lv_aload_n hx hb dL_law_1298 rfl (lv_at hl 3 rfl) ?_
  refine x_callH (As := [.ref (ad 0), .int (xs (6 * q + 1)), .ref (ad 88)]) (rest := []) hC hf_about hiniL hw hA hT (hH _) hRH hl.1 (Nat.le_of_ble_eq_true rfl) dL_law_1299 ⟨by omega, by omega⟩ rfl (fun u H locs hu hw => ?_)
  refine lv_istore (lv' := [(5, .int (nI k)), (0, .ref b), (1, .ref (ad 0)), (2, .ref (ad 77)), (3, .ref (ad 88)), (4, .int (nI (6 * q)))]) hx hb dL_law_1302 hl (by decide) rfl (fun ls hl => ?_)
  refine lv_aload_n hx hb dL_law_1304 rfl (lv_at hl 3 rfl) ?_
  refine lv_aload_n hx hb dL_law_1305 rfl (lv_at hl 1 rfl) ?_
  refine lv_iload hx hb dL_law_1306 (lv_at hl 5 rfl) ?_
  refine lv_iconst (v := nI 1) hx hb dL_law_1308 (by decide) ?_
  refine t_iadd hx hb dL_law_1309 (v := nI (6 * q + 1)) (nI_add _ _) ?_
  refine x_sld hx hb hX hbl hbA hL hw (j := 6 * q + 1) (by omega) dL_law_1310 ?_
  obtain ⟨fs7, h7⟩ := h77 u hu
  refine x_callW1 (As := [.int (xs (6 * q + 1))]) (rest := []) hC vf_L_151 hw hA (by decide) h7 rfl rfl (hG u _ hu) hRG hl.1 (Nat.le_of_ble_eq_true rfl) dL_law_1311 ⟨by omega, by omega⟩ rfl (fun u2 H locs hu2 hw => ?_)
  obtain ⟨⟨n7, t7, cl7, qu7, en7, kp7, hs7, g7⟩, ⟨ofn, g8, hval⟩, hinv⟩ := hE u u2 hu hu2
  refine lv_istore (lv' := [(6, .int bv), (5, .int (nI k)), (0, .ref b), (1, .ref (ad 0)), (2, .ref (ad 77)), (3, .ref (ad 88)), (4, .int (nI (6 * q)))]) hx hb dL_law_1314 hl (by decide) rfl (fun ls hl => ?_)
  refine lv_aload_n hx hb dL_law_1316 rfl (lv_at hl 4 rfl) ?_
  refine x_callW1 (As := []) (rest := []) hC vf_L_89 hw hA (by decide) g7 rfl rfl (k5_thrown l _ _ _ _ _ _ _ _ g7) ⟨rfl, rfl, Nat.le_of_ble_eq_true rfl, Nat.le_of_ble_eq_true rfl⟩ hl.1 (Nat.le_of_ble_eq_true rfl) dL_law_1317 ⟨by omega, by omega⟩ rfl (fun u3 H locs hu3 hw => ?_)
  rw [hu3] at hw
  refine lv_iload hx hb dL_law_1320 (lv_at hl 1 rfl) ?_
  refine lv_icmp_eq (tgt := 1327) hx hb dL_law_1322 (by decide) (fun q1 => ?_) (fun q1 => absurd rfl q1)
  refine lv_iload hx hb dL_law_1327 (lv_at hl 1 rfl) ?_
  refine lv_if_ne (tgt := 1344) hx hb dL_law_1329 (by decide) (fun q2 => ?_) (fun q2 => ?_)
  · rw [nI_z (by omega)] at q2
    refine lv_goto (tgt := 1347) hx hb dL_law_1344 (by decide) ?_
    refine W.widen (k := cells + 1) (n := slots + 6) (by omega) (by omega) ?_
    exact kx u2 H locs ls hinv hw (lv_sub hl [2, 3, 4, 5, 6] rfl)
  · rw [nI_z (by omega)] at q2
    have hv0 := hval (by omega)
    refine lv_aload_n hx hb dL_law_1332 rfl (lv_at hl 5 rfl) ?_
    refine lv_iconst (v := nI 0) hx hb dL_law_1333 (by decide) ?_
    refine x_lald hx hb hw (by decide) 1 g8 rfl (j := 0) (by decide) (by decide) rfl dL_law_1334 ?_
    refine lv_iload hx hb dL_law_1335 (lv_at hl 0 rfl) ?_
    refine lv_i2l hx hb dL_law_1337 rfl ?_
    refine W.lcmp hx hb dL_law_1338 ?_
    refine lv_if_eq (tgt := 1344) hx hb dL_law_1339 (by decide) (fun q4 => ?_) (fun q4 => absurd (by rw [lg_cmp_eq, hv0]) q4)
    refine lv_goto (tgt := 1347) hx hb dL_law_1344 (by decide) ?_
    refine W.widen (k := cells + 1) (n := slots + 6) (by omega) (by omega) ?_
    exact kx u2 H locs ls hinv hw (lv_sub hl [2, 3, 4, 5, 6] rfl)
