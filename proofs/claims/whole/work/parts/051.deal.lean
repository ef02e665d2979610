/-! dealBySeed -/
def setD (ad : Nat → Nat) (cI : ClassId) (w0 : Nat → va_E) (i : Nat) (cm rt gv : Nat → Int32) (cp hd ou : Int32) : Nat → va_E := va_up (va_up (va_up (va_up w0 (2 + 4 * i) (.inr (0, [.ref (ad (3 + 4 * i)), .ref (ad (4 + 4 * i)), .ref (ad (5 + 4 * i)), .int cp, .int hd, .int ou]))) (3 + 4 * i) (.inl (cI, 16, .inl cm))) (4 + 4 * i) (.inl (cI, 17, .inl rt))) (5 + 4 * i) (.inl (cI, 17, .inl gv))
theorem va_up_comm {α : Type} (f : Nat → α) {i j : Nat} (h : i ≠ j) (a b : α) : va_up (va_up f i a) j b = va_up (va_up f j b) i a := by
  funext z
  unfold va_up
  by_cases h1 : z = i
  · subst h1; simp [h]
  · simp [h1]
theorem va_up_id {α : Type} (f : Nat → α) {i : Nat} {a : α} (h : f i = a) : va_up f i a = f := by
  funext z
  unfold va_up
  by_cases h1 : z = i
  · subst h1; simp [h]
  · simp [h1]
section SD
variable {ad : Nat → Nat} {cI : ClassId} {w0 : Nat → va_E} {i : Nat} {cm rt gv : Nat → Int32} {cp hd ou : Int32}
theorem setD_D : setD ad cI w0 i cm rt gv cp hd ou (2 + 4 * i) = .inr (0, [.ref (ad (3 + 4 * i)), .ref (ad (4 + 4 * i)), .ref (ad (5 + 4 * i)), .int cp, .int hd, .int ou]) := by
  unfold setD
  rw [va_up_ne _ _ (by omega), va_up_ne _ _ (by omega), va_up_ne _ _ (by omega), va_up_self]
theorem setD_cm : setD ad cI w0 i cm rt gv cp hd ou (3 + 4 * i) = .inl (cI, 16, .inl cm) := by
  unfold setD
  rw [va_up_ne _ _ (by omega), va_up_ne _ _ (by omega), va_up_self]
theorem setD_rt : setD ad cI w0 i cm rt gv cp hd ou (4 + 4 * i) = .inl (cI, 17, .inl rt) := by
  unfold setD
  rw [va_up_ne _ _ (by omega), va_up_self]
theorem setD_gv : setD ad cI w0 i cm rt gv cp hd ou (5 + 4 * i) = .inl (cI, 17, .inl gv) := by
  unfold setD
  rw [va_up_self]
theorem setD_ne {z : Nat} (h : z < 2 + 4 * i ∨ 5 + 4 * i < z) : setD ad cI w0 i cm rt gv cp hd ou z = w0 z := by
  unfold setD
  rw [va_up_ne _ _ (by omega), va_up_ne _ _ (by omega), va_up_ne _ _ (by omega), va_up_ne _ _ (by omega)]
theorem setD_upD (cp2 hd2 ou2 : Int32) : va_up (setD ad cI w0 i cm rt gv cp hd ou) (2 + 4 * i) (.inr (0, [.ref (ad (3 + 4 * i)), .ref (ad (4 + 4 * i)), .ref (ad (5 + 4 * i)), .int cp2, .int hd2, .int ou2])) = setD ad cI w0 i cm rt gv cp2 hd2 ou2 := by
  unfold setD
  rw [va_up_comm _ (by omega), va_up_comm _ (i := 4 + 4 * i) (by omega), va_up_comm _ (i := 3 + 4 * i) (by omega), bx_uu]
theorem setD_upcm (f : Nat → Int32) : va_up (setD ad cI w0 i cm rt gv cp hd ou) (3 + 4 * i) (.inl (cI, 16, .inl f)) = setD ad cI w0 i f rt gv cp hd ou := by
  unfold setD
  rw [va_up_comm _ (by omega), va_up_comm _ (i := 4 + 4 * i) (by omega), bx_uu]
theorem setD_uprt (f : Nat → Int32) : va_up (setD ad cI w0 i cm rt gv cp hd ou) (4 + 4 * i) (.inl (cI, 17, .inl f)) = setD ad cI w0 i cm f gv cp hd ou := by
  unfold setD
  rw [va_up_comm _ (by omega), bx_uu]
theorem setD_upgv (f : Nat → Int32) : va_up (setD ad cI w0 i cm rt gv cp hd ou) (5 + 4 * i) (.inl (cI, 17, .inl f)) = setD ad cI w0 i cm rt f cp hd ou := by
  unfold setD
  rw [bx_uu]
theorem setD_id (h1 : w0 (2 + 4 * i) = .inr (0, [.ref (ad (3 + 4 * i)), .ref (ad (4 + 4 * i)), .ref (ad (5 + 4 * i)), .int cp, .int hd, .int ou])) (h2 : w0 (3 + 4 * i) = .inl (cI, 16, .inl cm)) (h3 : w0 (4 + 4 * i) = .inl (cI, 17, .inl rt)) (h4 : w0 (5 + 4 * i) = .inl (cI, 17, .inl gv)) : setD ad cI w0 i cm rt gv cp hd ou = w0 := by
  unfold setD
  rw [va_up_id _ h1, va_up_id _ h2, va_up_id _ h3, va_up_id _ h4]
end SD
def coF (seed : Int64) (i j : Nat) : Nat := md (stirF (stirF (stirF (lN 0) seed) (lN i)) (lN j)) 1073741789
theorem coF_lt (seed : Int64) (i j : Nat) : coF seed i j < 1073741789 := md_lt _ (by decide)
def pol (co : Nat → Nat) (k : Nat) : Nat → Nat → Nat
  | _, 0 => 0
  | j, m + 1 => co j + k * pol co k (j + 1) m
def rgt (co : Nat → Nat) (t k : Nat) : Nat := pol co k 0 t % 1073741789
theorem rgt_lt (co : Nat → Nat) (t k : Nat) : rgt co t k < 1073741789 := Nat.mod_lt _ (by decide)
theorem pol_step (co : Nat → Nat) (k j m : Nat) : (pol co k (j + 1) m % 1073741789 * k + co j) % 1073741789 = pol co k j (m + 1) % 1073741789 := by
  show _ = (co j + k * pol co k (j + 1) m) % 1073741789
  rw [Nat.add_mod, mm1, ← Nat.add_mod, Nat.add_comm, Nat.mul_comm]
theorem upd_s (f : Nat → Int32) (k : Nat) (x : Int32) : upd f k x k = x := by simp [upd]
theorem upd_n (f : Nat → Int32) {k j : Nat} (x : Int32) (h : j ≠ k) : upd f k x j = f j := by simp [upd, h]
theorem upd_all {f v : Nat → Int32} {q : Nat} {x : Int32} (hx : x = v (q + 1)) (h : ∀ k, 1 ≤ k → k ≤ q → f k = v k) : ∀ k, 1 ≤ k → k ≤ q + 1 → upd f (q + 1) x k = v k := by
  intro k h1 h2
  by_cases hk : k = q + 1
  · rw [hk, upd_s, hx]
  · rw [upd_n _ _ hk]
    exact h k h1 (by omega)
theorem mulk_lt {a k : Nat} (ha : a < 1073741789) (hk : k ≤ 16) : a * k ≤ 17179868624 := Nat.mul_le_mul (Nat.le_of_lt ha) hk

set_option maxHeartbeats 4000000 in
set_option maxRecDepth 100000 in
theorem k_dealA {l : Launch} {p : Program} {e : Env} {s : State} {m : MethodId} {args : Array Value} {below : List Frame} {meth : Method} {c : Code} {Q : State → Prop} {D : va_G} {cI cJ cZ cD : ClassId} {ad : Nat → Nat} {A : Nat → Prop} {H0 : Heap} {w0 : Nat → va_E} (hC : CallFix p m c cX0_dealBySeed 9 s args wsL_law RX0) (hA : ∀ q, H0.size ≤ q → A q) (i : Nat) (hi : i < 17) (n t : Nat) (hn : n ≤ 16) (ht : t ≤ n) (seed : Int64) 
    (cm gv : Nat → Int32) (cp hd ou : Int32) (kx : ∀ (rt : Nat → Int32) (w : Nat → va_E) (ls : Array Slot) (H : Heap) (locs : List Loc), (∀ k, 1 ≤ k → k ≤ n → rt k = nI 0) → w = setD ad cI w0 i cm rt gv cp hd ou → WW D vwCl (tyL cI cJ cZ cD) A H0 ad 89 w s H locs → lv_has ls 9 [(0, .ref (ad (2 + 4 * i))), (1, .int (nI i)), (2, .long seed), (4, .int (nI n)), (5, .int (nI t))] → W p l e ({ frames := 2, cells := 0, slots := 0, locals := 64 }) s m args below meth c H locs 0 0 Q (F0 m 24 ls [])) :
    ∀ (j : Nat) (q : Nat) (rt : Nat → Int32) (w : Nat → va_E) (ls : Array Slot) (H : Heap) (locs : List Loc), q + j = n → (∀ k, 1 ≤ k → k ≤ q → rt k = nI 0) → w = setD ad cI w0 i cm rt gv cp hd ou → WW D vwCl (tyL cI cJ cZ cD) A H0 ad 89 w s H locs → lv_has ls 9 [(0, .ref (ad (2 + 4 * i))), (1, .int (nI i)), (2, .long seed), (4, .int (nI n)), (5, .int (nI t)), (6, .int (nI (q + 1)))] → W p l e ({ frames := 2, cells := 0, slots := 0, locals := 64 }) s m args below meth c H locs 0 0 Q (F0 m 3 ls []) := by
  obtain ⟨hx, hb, hml, hown, hts⟩ := id hC
  intro j
  induction j with
  | zero =>
    intro q rt w ls H locs hq hz ew hw hl
    obtain rfl : q = n := by omega
    refine lv_iload hx hb dX0_dealBySeed_3 (lv_at hl 5 rfl) ?_
    refine lv_iload hx hb dX0_dealBySeed_5 (lv_at hl 3 rfl) ?_
    refine lv_icmp_gt (tgt := 24) hx hb dX0_dealBySeed_7 (by decide) (fun hc => ?_) (fun hc => absurd (nI_lt (by omega) (by omega)) hc)
    exact kx rt w ls H locs hz ew hw (lv_sub hl [0, 1, 2, 3, 4] rfl)
  | succ j ih =>
    intro q rt w ls H locs hq hz ew hw hl
    have hD : w (2 + 4 * i) = .inr (0, [.ref (ad (3 + 4 * i)), .ref (ad (4 + 4 * i)), .ref (ad (5 + 4 * i)), .int cp, .int hd, .int ou]) := by rw [ew]; exact setD_D
    have hCm : w (3 + 4 * i) = .inl (cI, 16, .inl cm) := by rw [ew]; exact setD_cm
    have hRt : w (4 + 4 * i) = .inl (cI, 17, .inl rt) := by rw [ew]; exact setD_rt
    have hGv : w (5 + 4 * i) = .inl (cI, 17, .inl gv) := by rw [ew]; exact setD_gv
    refine lv_iload hx hb dX0_dealBySeed_3 (lv_at hl 5 rfl) ?_
    refine lv_iload hx hb dX0_dealBySeed_5 (lv_at hl 3 rfl) ?_
    refine lv_icmp_gt (tgt := 24) hx hb dX0_dealBySeed_7 (by decide) (fun hc => absurd hc (nI_nlt (by omega) (by omega))) (fun hc => ?_)
    refine lv_aload_n hx hb dX0_dealBySeed_10 rfl (lv_at hl 0 rfl) ?_
    refine gf_X0_15 hx hb hts hown hw (by omega) hD rfl dX0_dealBySeed_11 ?_
    refine lv_iload hx hb dX0_dealBySeed_14 (lv_at hl 5 rfl) ?_
    refine lv_iconst (v := nI 0) hx hb dX0_dealBySeed_16 (by decide) ?_
    refine x_iast hx hb hw (by omega) 0 hRt rfl (j := q + 1) (by omega) (by decide) dX0_dealBySeed_17 (fun w_1 H locs ew_2 hw => ?_)
    have hc_3 : w_1 (2 + 4 * i) = .inr (0, [.ref (ad (3 + 4 * i)), .ref (ad (4 + 4 * i)), .ref (ad (5 + 4 * i)), .int cp, .int hd, .int ou]) := by rw [ew_2]; exact (va_up_ne _ _ (by omega)).trans hD
    have hc_4 : w_1 (3 + 4 * i) = .inl (cI, 16, .inl cm) := by rw [ew_2]; exact (va_up_ne _ _ (by omega)).trans hCm
    have hc_5 : w_1 (4 + 4 * i) = .inl (cI, 17, .inl (upd rt (q + 1) (nI 0))) := by rw [ew_2]; exact va_up_self _ _ _
    have hc_6 : w_1 (5 + 4 * i) = .inl (cI, 17, .inl gv) := by rw [ew_2]; exact (va_up_ne _ _ (by omega)).trans hGv
    refine lv_iinc (v := nI (q + 1 + 1)) (lv' := [(6, .int (nI (q + 1 + 1))), (0, .ref (ad (2 + 4 * i))), (1, .int (nI i)), (2, .long seed), (4, .int (nI n)), (5, .int (nI t))]) hx hb dX0_dealBySeed_18 hl (k := 5) rfl (nI_1 (q + 1)) (by decide) rfl (fun ls hl => ?_)
    refine lv_goto (tgt := 3) hx hb dX0_dealBySeed_21 (by decide) ?_
    exact ih (q + 1) _ _ ls H locs (by omega) (upd_all (v := fun _ => nI 0) rfl hz) (by rw [ew_2, ew, setD_uprt]) hw (lv_sub hl [1, 2, 3, 4, 5, 0] rfl)
set_option maxHeartbeats 4000000 in
set_option maxRecDepth 100000 in
theorem k_dealC {l : Launch} {p : Program} {e : Env} {s : State} {m : MethodId} {args : Array Value} {below : List Frame} {meth : Method} {c : Code} {Q : State → Prop} {D : va_G} {cI cJ cZ cD : ClassId} {ad : Nat → Nat} {A : Nat → Prop} {H0 : Heap} {w0 : Nat → va_E} (hC : CallFix p m c cX0_dealBySeed 9 s args wsL_law RX0) (hA : ∀ q, H0.size ≤ q → A q) (i : Nat) (hi : i < 17) (n t : Nat) (hn : n ≤ 16) (ht : t ≤ n) (seed : Int64) 
    (cm gv : Nat → Int32) (cp hd ou : Int32) (x a : Nat) (ha : a < 1073741789) (old : Nat → Nat) (hold0 : ∀ k, 1 ≤ k → k ≤ n → True ∧ old k < 1073741789) (kx : ∀ (rt : Nat → Int32) (w : Nat → va_E) (ls : Array Slot) (H : Heap) (locs : List Loc), (∀ k, 1 ≤ k → k ≤ n → rt k = nI ((old k * k + a) % 1073741789)) → w = setD ad cI w0 i cm rt gv cp hd ou → WW D vwCl (tyL cI cJ cZ cD) A H0 ad 89 w s H locs → lv_has ls 9 [(0, .ref (ad (2 + 4 * i))), (1, .int (nI i)), (2, .long seed), (4, .int (nI n)), (5, .int (nI t)), (6, .int (nI x))] → W p l e ({ frames := 2, cells := 0, slots := 0, locals := 64 }) s m args below meth c H locs 0 0 Q (F0 m 107 ls [])) :
    ∀ (j : Nat) (q : Nat) (rt : Nat → Int32) (w : Nat → va_E) (ls : Array Slot) (H : Heap) (locs : List Loc), q + j = n → (∀ k, 1 ≤ k → k ≤ n → (k ≤ q → rt k = nI ((old k * k + a) % 1073741789)) ∧ (q < k → rt k = nI (old k))) → w = setD ad cI w0 i cm rt gv cp hd ou → WW D vwCl (tyL cI cJ cZ cD) A H0 ad 89 w s H locs → lv_has ls 9 [(0, .ref (ad (2 + 4 * i))), (1, .int (nI i)), (2, .long seed), (4, .int (nI n)), (5, .int (nI t)), (6, .int (nI x)), (7, .int (nI a)), (8, .int (nI (q + 1)))] → W p l e ({ frames := 2, cells := 0, slots := 0, locals := 64 }) s m args below meth c H locs 0 0 Q (F0 m 68 ls []) := by
  obtain ⟨hx, hb, hml, hown, hts⟩ := id hC
  intro j
  induction j with
  | zero =>
    intro q rt w ls H locs hq hz ew hw hl
    obtain rfl : q = n := by omega
    refine lv_iload hx hb dX0_dealBySeed_68 (lv_at hl 7 rfl) ?_
    refine lv_iload hx hb dX0_dealBySeed_70 (lv_at hl 3 rfl) ?_
    refine lv_icmp_gt (tgt := 107) hx hb dX0_dealBySeed_72 (by decide) (fun hc => ?_) (fun hc => absurd (nI_lt (by omega) (by omega)) hc)
    exact kx rt w ls H locs (fun k h1 h2 => (hz k h1 h2).1 h2) ew hw (lv_sub hl [0, 1, 2, 3, 4, 5] rfl)
  | succ j ih =>
    intro q rt w ls H locs hq hz ew hw hl
    have hD : w (2 + 4 * i) = .inr (0, [.ref (ad (3 + 4 * i)), .ref (ad (4 + 4 * i)), .ref (ad (5 + 4 * i)), .int cp, .int hd, .int ou]) := by rw [ew]; exact setD_D
    have hCm : w (3 + 4 * i) = .inl (cI, 16, .inl cm) := by rw [ew]; exact setD_cm
    have hRt : w (4 + 4 * i) = .inl (cI, 17, .inl rt) := by rw [ew]; exact setD_rt
    have hGv : w (5 + 4 * i) = .inl (cI, 17, .inl gv) := by rw [ew]; exact setD_gv
    obtain ⟨hold, hold2⟩ := hold0 (q + 1) (by omega) (by omega)
    have hrt1 : rt (q + 1) = nI (old (q + 1)) := (hz (q + 1) (by omega) (by omega)).2 (by omega)
    have hmk := mulk_lt hold2 (show q + 1 ≤ 16 by omega)
    refine lv_iload hx hb dX0_dealBySeed_68 (lv_at hl 7 rfl) ?_
    refine lv_iload hx hb dX0_dealBySeed_70 (lv_at hl 3 rfl) ?_
    refine lv_icmp_gt (tgt := 107) hx hb dX0_dealBySeed_72 (by decide) (fun hc => absurd hc (nI_nlt (by omega) (by omega))) (fun hc => ?_)
    refine lv_aload_n hx hb dX0_dealBySeed_75 rfl (lv_at hl 0 rfl) ?_
    refine gf_X0_15 hx hb hts hown hw (by omega) hD rfl dX0_dealBySeed_76 ?_
    refine lv_iload hx hb dX0_dealBySeed_79 (lv_at hl 7 rfl) ?_
    refine lv_aload_n hx hb dX0_dealBySeed_81 rfl (lv_at hl 0 rfl) ?_
    refine gf_X0_15 hx hb hts hown hw (by omega) hD rfl dX0_dealBySeed_82 ?_
    refine lv_iload hx hb dX0_dealBySeed_85 (lv_at hl 7 rfl) ?_
    refine x_iald hx hb hw (by omega) 0 hRt rfl (j := q + 1) (by omega) (by decide) hrt1 dX0_dealBySeed_87 ?_
    refine lv_i2l hx hb dX0_dealBySeed_88 (nI_l (by omega)) ?_
    refine lv_iload hx hb dX0_dealBySeed_89 (lv_at hl 7 rfl) ?_
    refine lv_i2l hx hb dX0_dealBySeed_91 (nI_l (by omega)) ?_
    refine lv_lmul hx hb dX0_dealBySeed_92 ?_
    rw [lN_mul]
    refine lv_iload hx hb dX0_dealBySeed_93 (lv_at hl 6 rfl) ?_
    refine lv_i2l hx hb dX0_dealBySeed_95 (nI_l (by omega)) ?_
    refine t_ladd hx hb dX0_dealBySeed_96 (v := lN ((old (q + 1)) * (q + 1) + a)) (lN_add _ _) ?_
    refine x_callS (As := [.long (lN ((old (q + 1)) * (q + 1) + a))]) (rest := [.int (nI (q + 1)), .ref (ad (4 + 4 * i))]) hC sf_X0_41 (k_toExponent l (lN (old (q + 1) * (q + 1) + a))) ⟨rfl, rfl, Nat.le_of_ble_eq_true rfl, Nat.le_of_ble_eq_true rfl⟩ hl.1 (Nat.le_of_ble_eq_true rfl) dX0_dealBySeed_97 ⟨Nat.zero_le _, Nat.zero_le _⟩ rfl ?_
    rw [md_nat (by omega)]
    refine x_iast hx hb hw (by omega) 0 hRt rfl (j := q + 1) (by omega) (by decide) dX0_dealBySeed_100 (fun w_1 H locs ew_2 hw => ?_)
    have hc_3 : w_1 (2 + 4 * i) = .inr (0, [.ref (ad (3 + 4 * i)), .ref (ad (4 + 4 * i)), .ref (ad (5 + 4 * i)), .int cp, .int hd, .int ou]) := by rw [ew_2]; exact (va_up_ne _ _ (by omega)).trans hD
    have hc_4 : w_1 (3 + 4 * i) = .inl (cI, 16, .inl cm) := by rw [ew_2]; exact (va_up_ne _ _ (by omega)).trans hCm
    have hc_5 : w_1 (4 + 4 * i) = .inl (cI, 17, .inl (upd rt (q + 1) (nI ((old (q + 1) * (q + 1) + a) % 1073741789)))) := by rw [ew_2]; exact va_up_self _ _ _
    have hc_6 : w_1 (5 + 4 * i) = .inl (cI, 17, .inl gv) := by rw [ew_2]; exact (va_up_ne _ _ (by omega)).trans hGv
    refine lv_iinc (v := nI (q + 1 + 1)) (lv' := [(8, .int (nI (q + 1 + 1))), (0, .ref (ad (2 + 4 * i))), (1, .int (nI i)), (2, .long seed), (4, .int (nI n)), (5, .int (nI t)), (6, .int (nI x)), (7, .int (nI a))]) hx hb dX0_dealBySeed_101 hl (k := 7) rfl (nI_1 (q + 1)) (by decide) rfl (fun ls hl => ?_)
    refine lv_goto (tgt := 68) hx hb dX0_dealBySeed_104 (by decide) ?_
    refine ih (q + 1) _ _ ls H locs (by omega) (fun k h1 h2 => ⟨fun h3 => ?_, fun h3 => ?_⟩) (by rw [ew_2, ew, setD_uprt]) hw (lv_sub hl [1, 2, 3, 4, 5, 6, 7, 0] rfl)
    · by_cases hk : k = q + 1
      · rw [hk, upd_s]
      · rw [upd_n _ _ hk]; exact (hz k h1 h2).1 (by omega)
    · rw [upd_n _ _ (by omega)]; exact (hz k h1 h2).2 (by omega)
set_option maxHeartbeats 4000000 in
set_option maxRecDepth 100000 in
theorem k_dealB {l : Launch} {p : Program} {e : Env} {s : State} {m : MethodId} {args : Array Value} {below : List Frame} {meth : Method} {c : Code} {Q : State → Prop} {D : va_G} {cI cJ cZ cD : ClassId} {ad : Nat → Nat} {A : Nat → Prop} {H0 : Heap} {w0 : Nat → va_E} (hC : CallFix p m c cX0_dealBySeed 9 s args wsL_law RX0) (hA : ∀ q, H0.size ≤ q → A q) (i : Nat) (hi : i < 17) (n t : Nat) (hn : n ≤ 16) (ht : t ≤ n) (seed : Int64) 
    (gv : Nat → Int32) (cp hd ou : Int32) (kx : ∀ (cm rt : Nat → Int32) (w : Nat → va_E) (ls : Array Slot) (H : Heap) (locs : List Loc), (∀ x, x < t → cm x = nI (4 ^ coF seed i x % 2147483579)) → (∀ k, 1 ≤ k → k ≤ n → rt k = nI (rgt (coF seed i) t k)) → w = setD ad cI w0 i cm rt gv cp hd ou → WW D vwCl (tyL cI cJ cZ cD) A H0 ad 89 w s H locs → lv_has ls 9 [(0, .ref (ad (2 + 4 * i))), (1, .int (nI i)), (2, .long seed), (4, .int (nI n)), (5, .int (nI t))] → W p l e ({ frames := 2, cells := 0, slots := 0, locals := 64 }) s m args below meth c H locs 0 0 Q (F0 m 113 ls [])) :
    ∀ (j : Nat) (cm rt : Nat → Int32) (w : Nat → va_E) (ls : Array Slot) (H : Heap) (locs : List Loc), j ≤ t → (∀ x, j ≤ x → x < t → cm x = nI (4 ^ coF seed i x % 2147483579)) → (∀ k, 1 ≤ k → k ≤ n → rt k = nI (pol (coF seed i) k j (t - j) % 1073741789)) → w = setD ad cI w0 i cm rt gv cp hd ou → WW D vwCl (tyL cI cJ cZ cD) A H0 ad 89 w s H locs → lv_has ls 9 [(0, .ref (ad (2 + 4 * i))), (1, .int (nI i)), (2, .long seed), (4, .int (nI n)), (5, .int (nI t)), (6, .int (nI j - 1))] → W p l e ({ frames := 2, cells := 0, slots := 0, locals := 64 }) s m args below meth c H locs 0 0 Q (F0 m 30 ls []) := by
  obtain ⟨hx, hb, hml, hown, hts⟩ := id hC
  intro j
  induction j with
  | zero =>
    intro cm rt w ls H locs hj hcm hz ew hw hl
    refine lv_iload hx hb dX0_dealBySeed_30 (lv_at hl 5 rfl) ?_
    refine lv_if_lt (tgt := 113) hx hb dX0_dealBySeed_32 (by decide) (fun hc => ?_) (fun hc => absurd (show nI 0 - 1 < 0 by decide) hc)
    exact kx cm rt w ls H locs (fun x hx9 => hcm x (Nat.zero_le _) hx9) (fun k h1 h2 => by rw [hz k h1 h2]; rfl) ew hw (lv_sub hl [0, 1, 2, 3, 4] rfl)
  | succ j ih =>
    intro cm rt w ls H locs hj hcm hz ew hw hl
    have hl : lv_has ls 9 [(0, .ref (ad (2 + 4 * i))), (1, .int (nI i)), (2, .long seed), (4, .int (nI n)), (5, .int (nI t)), (6, .int (nI j))] := by rw [nI_pred] at hl; exact hl
    have hD : w (2 + 4 * i) = .inr (0, [.ref (ad (3 + 4 * i)), .ref (ad (4 + 4 * i)), .ref (ad (5 + 4 * i)), .int cp, .int hd, .int ou]) := by rw [ew]; exact setD_D
    have hCm : w (3 + 4 * i) = .inl (cI, 16, .inl cm) := by rw [ew]; exact setD_cm
    have hRt : w (4 + 4 * i) = .inl (cI, 17, .inl rt) := by rw [ew]; exact setD_rt
    have hGv : w (5 + 4 * i) = .inl (cI, 17, .inl gv) := by rw [ew]; exact setD_gv
    have hco := coF_lt seed i j
    refine lv_iload hx hb dX0_dealBySeed_30 (lv_at hl 5 rfl) ?_
    refine lv_if_lt (tgt := 113) hx hb dX0_dealBySeed_32 (by decide) (fun hc => absurd hc (nI_pos (by omega))) (fun hc => ?_)
    refine lv_lload_n hx hb dX0_dealBySeed_35 rfl (lv_at hl 2 rfl) ?_
    refine lv_iload_n hx hb dX0_dealBySeed_36 rfl (lv_at hl 1 rfl) ?_
    refine lv_i2l hx hb dX0_dealBySeed_37 (nI_l (by omega)) ?_
    refine x_callS (As := [.long seed, .long (lN i)]) (rest := []) hC sf_X0_32 (k_hash l seed (lN i)) ⟨rfl, rfl, Nat.le_of_ble_eq_true rfl, Nat.le_of_ble_eq_true rfl⟩ hl.1 (Nat.le_of_ble_eq_true rfl) dX0_dealBySeed_38 ⟨Nat.zero_le _, Nat.zero_le _⟩ rfl ?_
    refine lv_iload hx hb dX0_dealBySeed_41 (lv_at hl 5 rfl) ?_
    refine lv_i2l hx hb dX0_dealBySeed_43 (nI_l (by omega)) ?_
    refine x_callS (As := [.long (stirF (stirF (lN 0) seed) (lN i)), .long (lN j)]) (rest := []) hC sf_X0_38 (k_stir l (stirF (stirF (lN 0) seed) (lN i)) (lN j)) ⟨rfl, rfl, Nat.le_of_ble_eq_true rfl, Nat.le_of_ble_eq_true rfl⟩ hl.1 (Nat.le_of_ble_eq_true rfl) dX0_dealBySeed_44 ⟨Nat.zero_le _, Nat.zero_le _⟩ rfl ?_
    refine x_callS (As := [.long (stirF (stirF (stirF (lN 0) seed) (lN i)) (lN j))]) (rest := []) hC sf_X0_41 (k_toExponent l (stirF (stirF (stirF (lN 0) seed) (lN i)) (lN j))) ⟨rfl, rfl, Nat.le_of_ble_eq_true rfl, Nat.le_of_ble_eq_true rfl⟩ hl.1 (Nat.le_of_ble_eq_true rfl) dX0_dealBySeed_47 ⟨Nat.zero_le _, Nat.zero_le _⟩ rfl ?_
    refine lv_istore (lv' := [(7, .int (nI (coF seed i j))), (0, .ref (ad (2 + 4 * i))), (1, .int (nI i)), (2, .long seed), (4, .int (nI n)), (5, .int (nI t)), (6, .int (nI j))]) hx hb dX0_dealBySeed_50 hl (by decide) rfl (fun ls hl => ?_)
    refine lv_aload_n hx hb dX0_dealBySeed_52 rfl (lv_at hl 1 rfl) ?_
    refine gf_X0_9 hx hb hts hown hw (by omega) hD rfl dX0_dealBySeed_53 ?_
    refine lv_iload hx hb dX0_dealBySeed_56 (lv_at hl 6 rfl) ?_
    refine lv_iconst (v := nI 4) hx hb dX0_dealBySeed_58 (by decide) ?_
    refine lv_iload hx hb dX0_dealBySeed_59 (lv_at hl 0 rfl) ?_
    refine x_callS (As := [.int (nI 4), .int (nI (coF seed i j))]) (rest := [.int (nI j), .ref (ad (3 + 4 * i))]) hC sf_X0_45 (k_power l 4 (coF seed i j) (by decide) (by omega)) ⟨rfl, rfl, Nat.le_of_ble_eq_true rfl, Nat.le_of_ble_eq_true rfl⟩ hl.1 (Nat.le_of_ble_eq_true rfl) dX0_dealBySeed_61 ⟨Nat.zero_le _, Nat.zero_le _⟩ rfl ?_
    refine x_iast hx hb hw (by omega) 0 hCm rfl (j := j) (by omega) (by decide) dX0_dealBySeed_64 (fun w_1 H locs ew_2 hw => ?_)
    have hc_3 : w_1 (2 + 4 * i) = .inr (0, [.ref (ad (3 + 4 * i)), .ref (ad (4 + 4 * i)), .ref (ad (5 + 4 * i)), .int cp, .int hd, .int ou]) := by rw [ew_2]; exact (va_up_ne _ _ (by omega)).trans hD
    have hc_4 : w_1 (3 + 4 * i) = .inl (cI, 16, .inl (upd cm j (nI (4 ^ coF seed i j % 2147483579)))) := by rw [ew_2]; exact va_up_self _ _ _
    have hc_5 : w_1 (4 + 4 * i) = .inl (cI, 17, .inl rt) := by rw [ew_2]; exact (va_up_ne _ _ (by omega)).trans hRt
    have hc_6 : w_1 (5 + 4 * i) = .inl (cI, 17, .inl gv) := by rw [ew_2]; exact (va_up_ne _ _ (by omega)).trans hGv
    refine lv_iconst (v := nI 1) hx hb dX0_dealBySeed_65 (by decide) ?_
    refine lv_istore (lv' := [(8, .int (nI 1)), (7, .int (nI (coF seed i j))), (0, .ref (ad (2 + 4 * i))), (1, .int (nI i)), (2, .long seed), (4, .int (nI n)), (5, .int (nI t)), (6, .int (nI j))]) hx hb dX0_dealBySeed_66 hl (by decide) rfl (fun ls hl => ?_)
    refine k_dealC (w0 := w0) hC hA i hi n t hn ht seed _ gv cp hd ou j (coF seed i j) hco (fun k => pol (coF seed i) k (j + 1) (t - (j + 1)) % 1073741789) (fun k _ _ => ⟨trivial, Nat.mod_lt _ (by decide)⟩) (fun rt2 w ls H locs hz2 ew hw hl => ?_) n 0 rt _ ls H locs (by omega) (fun k h1 h2 => ⟨fun h3 => by omega, fun _ => hz k h1 h2⟩) (by rw [ew_2, ew, setD_upcm]) hw (lv_sub hl [2, 3, 4, 5, 6, 7, 1, 0] rfl)
    refine lv_iinc (v := nI j - 1) (lv' := [(6, .int (nI j - 1)), (0, .ref (ad (2 + 4 * i))), (1, .int (nI i)), (2, .long seed), (4, .int (nI n)), (5, .int (nI t))]) hx hb dX0_dealBySeed_107 hl (k := 5) rfl (by rw [Int32.sub_eq_add_neg]; rfl) (by decide) rfl (fun ls hl => ?_)
    refine lv_goto (tgt := 30) hx hb dX0_dealBySeed_110 (by decide) ?_
    refine ih _ rt2 w ls H locs (by omega) (fun x h1 h2 => ?_) (fun k h1 h2 => ?_) ew hw (lv_sub hl [1, 2, 3, 4, 5, 0] rfl)
    · by_cases hxj : x = j
      · rw [hxj, upd_s]
      · rw [upd_n _ _ hxj]; exact hcm x (by omega) h2
    · rw [hz2 k h1 h2, pol_step, show t - (j + 1) + 1 = t - j by omega]
set_option maxHeartbeats 4000000 in
set_option maxRecDepth 100000 in
theorem k_dealD {l : Launch} {p : Program} {e : Env} {s : State} {m : MethodId} {args : Array Value} {below : List Frame} {meth : Method} {c : Code} {Q : State → Prop} {D : va_G} {cI cJ cZ cD : ClassId} {ad : Nat → Nat} {A : Nat → Prop} {H0 : Heap} {w0 : Nat → va_E} (hC : CallFix p m c cX0_dealBySeed 9 s args wsL_law RX0) (hA : ∀ q, H0.size ≤ q → A q) (i : Nat) (hi : i < 17) (n t : Nat) (hn : n ≤ 16) (ht : t ≤ n) (seed : Int64) 
    (cm rt : Nat → Int32) (cp hd ou : Int32) (kx : ∀ (gv : Nat → Int32) (w : Nat → va_E) (ls : Array Slot) (H : Heap) (locs : List Loc), (∀ k, 1 ≤ k → k ≤ n → gv k = rt k) → w = setD ad cI w0 i cm rt gv cp hd ou → WW D vwCl (tyL cI cJ cZ cD) A H0 ad 89 w s H locs → lv_has ls 9 [(0, .ref (ad (2 + 4 * i)))] → W p l e ({ frames := 2, cells := 0, slots := 0, locals := 64 }) s m args below meth c H locs 0 0 Q (F0 m 143 ls [])) :
    ∀ (j : Nat) (q : Nat) (gv : Nat → Int32) (w : Nat → va_E) (ls : Array Slot) (H : Heap) (locs : List Loc), q + j = n → (∀ k, 1 ≤ k → k ≤ q → gv k = rt k) → w = setD ad cI w0 i cm rt gv cp hd ou → WW D vwCl (tyL cI cJ cZ cD) A H0 ad 89 w s H locs → lv_has ls 9 [(0, .ref (ad (2 + 4 * i))), (1, .int (nI i)), (2, .long seed), (4, .int (nI n)), (5, .int (nI t)), (6, .int (nI (q + 1)))] → W p l e ({ frames := 2, cells := 0, slots := 0, locals := 64 }) s m args below meth c H locs 0 0 Q (F0 m 116 ls []) := by
  obtain ⟨hx, hb, hml, hown, hts⟩ := id hC
  intro j
  induction j with
  | zero =>
    intro q gv w ls H locs hq hz ew hw hl
    obtain rfl : q = n := by omega
    refine lv_iload hx hb dX0_dealBySeed_116 (lv_at hl 5 rfl) ?_
    refine lv_iload hx hb dX0_dealBySeed_118 (lv_at hl 3 rfl) ?_
    refine lv_icmp_gt (tgt := 143) hx hb dX0_dealBySeed_120 (by decide) (fun hc => ?_) (fun hc => absurd (nI_lt (by omega) (by omega)) hc)
    exact kx gv w ls H locs hz ew hw (lv_sub hl [0] rfl)
  | succ j ih =>
    intro q gv w ls H locs hq hz ew hw hl
    have hD : w (2 + 4 * i) = .inr (0, [.ref (ad (3 + 4 * i)), .ref (ad (4 + 4 * i)), .ref (ad (5 + 4 * i)), .int cp, .int hd, .int ou]) := by rw [ew]; exact setD_D
    have hCm : w (3 + 4 * i) = .inl (cI, 16, .inl cm) := by rw [ew]; exact setD_cm
    have hRt : w (4 + 4 * i) = .inl (cI, 17, .inl rt) := by rw [ew]; exact setD_rt
    have hGv : w (5 + 4 * i) = .inl (cI, 17, .inl gv) := by rw [ew]; exact setD_gv
    refine lv_iload hx hb dX0_dealBySeed_116 (lv_at hl 5 rfl) ?_
    refine lv_iload hx hb dX0_dealBySeed_118 (lv_at hl 3 rfl) ?_
    refine lv_icmp_gt (tgt := 143) hx hb dX0_dealBySeed_120 (by decide) (fun hc => absurd hc (nI_nlt (by omega) (by omega))) (fun hc => ?_)
    refine lv_aload_n hx hb dX0_dealBySeed_123 rfl (lv_at hl 0 rfl) ?_
    refine gf_X0_18 hx hb hts hown hw (by omega) hD rfl dX0_dealBySeed_124 ?_
    refine lv_iload hx hb dX0_dealBySeed_127 (lv_at hl 5 rfl) ?_
    refine lv_aload_n hx hb dX0_dealBySeed_129 rfl (lv_at hl 0 rfl) ?_
    refine gf_X0_15 hx hb hts hown hw (by omega) hD rfl dX0_dealBySeed_130 ?_
    refine lv_iload hx hb dX0_dealBySeed_133 (lv_at hl 5 rfl) ?_
    refine x_iald hx hb hw (by omega) 0 hRt rfl (j := q + 1) (by omega) (by decide) rfl dX0_dealBySeed_135 ?_
    refine x_iast hx hb hw (by omega) 0 hGv rfl (j := q + 1) (by omega) (by decide) dX0_dealBySeed_136 (fun w_1 H locs ew_2 hw => ?_)
    have hc_3 : w_1 (2 + 4 * i) = .inr (0, [.ref (ad (3 + 4 * i)), .ref (ad (4 + 4 * i)), .ref (ad (5 + 4 * i)), .int cp, .int hd, .int ou]) := by rw [ew_2]; exact (va_up_ne _ _ (by omega)).trans hD
    have hc_4 : w_1 (3 + 4 * i) = .inl (cI, 16, .inl cm) := by rw [ew_2]; exact (va_up_ne _ _ (by omega)).trans hCm
    have hc_5 : w_1 (4 + 4 * i) = .inl (cI, 17, .inl rt) := by rw [ew_2]; exact (va_up_ne _ _ (by omega)).trans hRt
    have hc_6 : w_1 (5 + 4 * i) = .inl (cI, 17, .inl (upd gv (q + 1) (rt (q + 1)))) := by rw [ew_2]; exact va_up_self _ _ _
    refine lv_iinc (v := nI (q + 1 + 1)) (lv' := [(6, .int (nI (q + 1 + 1))), (0, .ref (ad (2 + 4 * i))), (1, .int (nI i)), (2, .long seed), (4, .int (nI n)), (5, .int (nI t))]) hx hb dX0_dealBySeed_137 hl (k := 5) rfl (nI_1 (q + 1)) (by decide) rfl (fun ls hl => ?_)
    refine lv_goto (tgt := 116) hx hb dX0_dealBySeed_140 (by decide) ?_
    exact ih (q + 1) _ _ ls H locs (by omega) (upd_all (v := rt) rfl hz) (by rw [ew_2, ew, setD_upgv]) hw (lv_sub hl [1, 2, 3, 4, 5, 0] rfl)
set_option maxHeartbeats 4000000 in
set_option maxRecDepth 100000 in
theorem k_dealBySeed (l : Launch) {D : va_G} {cI cJ cZ cD : ClassId} {ad : Nat → Nat} {w : Nat → va_E} {sz : Nat} (i : Nat) (hi : i < 17) (n t : Nat) (hn : n ≤ 16) (ht : t ≤ n) (seed : Int64) (cm rt gv : Nat → Int32) (cp hd ou : Int32) (hD : w (2 + 4 * i) = .inr (0, [.ref (ad (3 + 4 * i)), .ref (ad (4 + 4 * i)), .ref (ad (5 + 4 * i)), .int cp, .int hd, .int ou])) (hCm : w (3 + 4 * i) = .inl (cI, 16, .inl cm)) (hRt : w (4 + 4 * i) = .inl (cI, 17, .inl rt)) (hGv : w (5 + 4 * i) = .inl (cI, 17, .inl gv)) : MW l yX0_dealBySeed (.code yX0_dealBySeed cX0_dealBySeed 9 none) ({ frames := 2, cells := 0, slots := 0, locals := 64 }) [.ref (ad (2 + 4 * i)), .int (nI i), .long seed, .int (nI n), .int (nI t)] D (tyL cI cJ cZ cD) ad 89 w sz none (fun u => ∃ cm2 rt2 gv2 : Nat → Int32, (∀ x, x < t → cm2 x = nI (4 ^ coF seed i x % 2147483579)) ∧ (∀ k, 1 ≤ k → k ≤ n → rt2 k = nI (rgt (coF seed i) t k)) ∧ (∀ k, 1 ≤ k → k ≤ n → gv2 k = nI (rgt (coF seed i) t k)) ∧ u = setD ad cI w i cm2 rt2 gv2 cp (nI 1) ou) := by
  refine MW.of (by decide) (Nat.le_of_ble_eq_true rfl) ?_
  intro p e s m below meth c ls hC hr hlocks hl hw
  obtain ⟨hx, hb, hml, hown, hts⟩ := id hC
  have hA : ∀ q, s.heap.size ≤ q → xA ad 89 s.heap.size q := fun q h => Or.inr h
  have hl : lv_has ls 9 [(0, .ref (ad (2 + 4 * i))), (1, .int (nI i)), (2, .long seed), (4, .int (nI n)), (5, .int (nI t))] := hl
  refine lv_iconst (v := nI 1) hx hb dX0_dealBySeed_0 (by decide) ?_
  refine lv_istore (lv' := [(6, .int (nI 1)), (0, .ref (ad (2 + 4 * i))), (1, .int (nI i)), (2, .long seed), (4, .int (nI n)), (5, .int (nI t))]) hx hb dX0_dealBySeed_1 hl (by decide) rfl (fun ls hl => ?_)
  refine k_dealA (w0 := w) hC hA i hi n t hn ht seed cm gv cp hd ou (fun rt1 w1 ls H locs hz1 ew hw hl => ?_) n 0 rt w ls s.heap [] (by omega) (fun k h1 h2 => by omega) (setD_id hD hCm hRt hGv).symm hw (lv_sub hl [1, 2, 3, 4, 5, 0] rfl)
  refine lv_iload hx hb dX0_dealBySeed_24 (lv_at hl 4 rfl) ?_
  refine lv_iconst (v := nI 1) hx hb dX0_dealBySeed_26 (by decide) ?_
  refine lv_isub hx hb dX0_dealBySeed_27 ?_
  rw [show nI 1 = 1 from rfl]
  refine lv_istore (lv' := [(6, .int (nI t - 1)), (0, .ref (ad (2 + 4 * i))), (1, .int (nI i)), (2, .long seed), (4, .int (nI n)), (5, .int (nI t))]) hx hb dX0_dealBySeed_28 hl (by decide) rfl (fun ls hl => ?_)
  refine k_dealB (w0 := w) hC hA i hi n t hn ht seed gv cp hd ou (fun cm2 rt2 w2 ls H locs hcm2 hrt2 ew hw hl => ?_) t cm rt1 w1 ls H locs (Nat.le_refl _) (fun x h1 h2 => by omega) (fun k h1 h2 => by rw [hz1 k h1 h2, Nat.sub_self]; rfl) ew hw (lv_sub hl [1, 2, 3, 4, 5, 0] rfl)
  refine lv_iconst (v := nI 1) hx hb dX0_dealBySeed_113 (by decide) ?_
  refine lv_istore (lv' := [(6, .int (nI 1)), (0, .ref (ad (2 + 4 * i))), (1, .int (nI i)), (2, .long seed), (4, .int (nI n)), (5, .int (nI t))]) hx hb dX0_dealBySeed_114 hl (by decide) rfl (fun ls hl => ?_)
  refine k_dealD (w0 := w) hC hA i hi n t hn ht seed cm2 rt2 cp hd ou (fun gv2 w3 ls H locs hgv2 ew hw hl => ?_) n 0 gv w2 ls H locs (by omega) (fun k h1 h2 => by omega) ew hw (lv_sub hl [1, 2, 3, 4, 5, 0] rfl)
  have hD : w3 (2 + 4 * i) = .inr (0, [.ref (ad (3 + 4 * i)), .ref (ad (4 + 4 * i)), .ref (ad (5 + 4 * i)), .int cp, .int hd, .int ou]) := by rw [ew]; exact setD_D
  refine lv_aload_n hx hb dX0_dealBySeed_143 rfl (lv_at hl 0 rfl) ?_
  refine lv_iconst (v := nI 1) hx hb dX0_dealBySeed_144 (by decide) ?_
  refine pf_X0_25 (v := .int (nI 1)) hx hb hts hown hw (by omega) hD rfl (by decide) (Nat.le_of_ble_eq_true rfl) dX0_dealBySeed_145 (fun w_1 H locs ew_2 hw => ?_)
  have hc_3 : w_1 (2 + 4 * i) = .inr (0, [.ref (ad (3 + 4 * i)), .ref (ad (4 + 4 * i)), .ref (ad (5 + 4 * i)), .int cp, .int (nI 1), .int ou]) := by rw [ew_2]; exact va_up_self _ _ _
  exact x_wretV hx hb hr hlocks hw ⟨cm2, rt2, gv2, hcm2, hrt2, fun k h1 h2 => (hgv2 k h1 h2).trans (hrt2 k h1 h2), by rw [ew_2, ew]; exact setD_upD _ _ _⟩ dX0_dealBySeed_148
