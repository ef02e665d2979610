/-! the reference: sums, weights; how it holds the state -/
theorem cnt_ext {f : Nat → Nat} {n : Nat} : ∀ j, (∀ k, n < k → k ≤ n + j → f k = 0) → cnt f (n + j) = cnt f n := by
  intro j
  induction j with
  | zero => intro _; rfl
  | succ j ih =>
    intro h
    show cnt f (n + j) + f (n + j + 1) = _
    rw [ih (fun k h1 h2 => h k h1 (by omega)), h (n + j + 1) (by omega) (by omega)]
    rfl
theorem tb_z {b k : Nat} (h : ¬ tb b k = 1) : tb b k = 0 := by have := tb_lt b k; omega
theorem pc16 (b : Nat) : pcN b = tb b 0 + cnt (tb b) 16 := by
  have e : cnt (tb b) 16 = 0 + tb b 1 + tb b 2 + tb b 3 + tb b 4 + tb b 5 + tb b 6 + tb b 7 + tb b 8 + tb b 9 + tb b 10 + tb b 11 + tb b 12 + tb b 13 + tb b 14 + tb b 15 + tb b 16 := rfl
  rw [e]
  unfold pcN
  omega
theorem pc_cnt {b n : Nat} (hn : n ≤ 16) (h : ∀ k, tb b k = 1 → 1 ≤ k ∧ k ≤ n) : cnt (tb b) n = pcN b := by
  rw [pc16, tb_z (k := 0) (fun q => by have := (h 0 q).1; omega)]
  have h1 := cnt_ext (f := tb b) (n := n) (16 - n) (fun k h1 h2 => tb_z (fun q => by have := (h k q).2; omega))
  rw [show n + (16 - n) = 16 by omega] at h1
  omega
theorem tb_all0 {b : Nat} (hb : b < 2 ^ 17) (h : ∀ k, k < 17 → tb b k = 0) : b = 0 := by
  apply Nat.eq_of_testBit_eq
  intro i
  rw [Nat.zero_testBit]
  cases hq : b.testBit i with
  | false => rfl
  | true =>
    exfalso
    have h1 := tb_eq1.mpr hq
    by_cases hi : i < 17
    · rw [h i hi] at h1; exact absurd h1 (by decide)
    · rw [tb_big hb (by omega)] at h1; exact absurd h1 (by decide)
theorem cnt_pos {f : Nat → Nat} {n k : Nat} (h1 : 1 ≤ k) (h2 : k ≤ n) (h : 1 ≤ f k) : 1 ≤ cnt f n := by
  induction n with
  | zero => omega
  | succ n ih =>
    show 1 ≤ cnt f n + f (n + 1)
    by_cases hk : k = n + 1
    · subst hk; omega
    · have := ih (by omega); omega
theorem cnt0_cp {b n : Nat} (hn : n ≤ 16) (hb : b < 2 ^ 17) (h : ∀ k, tb b k = 1 → 1 ≤ k ∧ k ≤ n) : cnt (tb b) n = 0 ↔ b = 0 := by
  constructor
  · intro q
    apply tb_all0 hb
    intro k hk
    apply tb_z
    intro q2
    obtain ⟨h1, h2⟩ := h k q2
    have := cnt_pos (f := tb b) h1 h2 (by omega)
    omega
  · intro q
    subst q
    have h1 := cnt_ext (f := tb 0) (n := 0) n (fun k _ _ => tb_zero k)
    rw [Nat.zero_add] at h1
    exact h1
theorem qf_tb {dl ou cp : Nat → Nat} : ∀ n i, 1 ≤ i → i ≤ n → tb (qf dl ou cp n) i = if dl i = 1 ∧ ou i = 0 ∧ cp i = 0 then 1 else 0 := by
  intro n
  induction n with
  | zero => intro i h1 h2; omega
  | succ n ih =>
    intro i h1 h2
    by_cases hc : dl (n + 1) = 1 ∧ ou (n + 1) = 0 ∧ cp (n + 1) = 0
    · rw [show qf dl ou cp (n + 1) = _ from if_pos hc, tb_or]
      by_cases hi : i = n + 1
      · subst hi; rw [if_pos rfl, if_pos hc]
      · rw [if_neg hi]; exact ih i h1 (by omega)
    · rw [show qf dl ou cp (n + 1) = _ from if_neg hc]
      by_cases hi : i = n + 1
      · subst hi
        rw [if_neg hc]
        exact tb_z (fun q => by have := (qf_dl _ q).1.2; omega)
      · exact ih i h1 (by omega)
def mq (dl ou cp : Nat → Nat) (i : Nat) : Nat := if dl i = 1 ∧ ou i = 0 ∧ cp i = 0 then 1 else 0
theorem mq_le (dl ou cp : Nat → Nat) (i : Nat) : mq dl ou cp i ≤ 1 := by unfold mq; split <;> omega
theorem mq_pc {dl ou cp : Nat → Nat} {n : Nat} (hn : n ≤ 16) : cnt (mq dl ou cp) n = pcN (qf dl ou cp n) := by
  rw [← pc_cnt hn (fun k q => (qf_dl k q).1)]
  exact cnt_congr n (fun i h1 h2 => (qf_tb n i h1 h2).symm)
theorem pc_z {b : Nat} (hb : b < 2 ^ 17) : pcN b = 0 ↔ b = 0 := by
  constructor
  · intro q
    apply tb_all0 hb
    intro k hk
    apply tb_z
    intro q2
    rw [pc16] at q
    by_cases h0 : k = 0
    · subst h0; omega
    · have := cnt_pos (f := tb b) (n := 16) (k := k) (by omega) (by omega) (by omega); omega
  · intro q; subst q; decide
theorem lst_ext {b t n : Nat} (h : ∀ k, tb b k = 1 → k ≤ n) : ∀ j, lst b t (n + j) = lst b t n := by
  intro j
  induction j with
  | zero => rfl
  | succ j ih =>
    rw [show lst b t (n + (j + 1)) = lst b t (n + j) from if_neg (fun q => by have h2 : n + j + 1 ≤ n := h (n + j + 1) q.2; omega)]
    exact ih
theorem lst16 {b t n : Nat} (hn : n ≤ 16) (h : ∀ k, tb b k = 1 → 1 ≤ k ∧ k ≤ n) : lst b t n = lst b t 16 := by
  have := lst_ext (t := t) (fun k q => (h k q).2) (16 - n)
  rw [show n + (16 - n) = 16 by omega] at this
  exact this.symm
theorem lst_cnt {b t : Nat} : ∀ n, (lst b t n).2 = min t (cnt (tb b) n) := by
  intro n
  induction n with
  | zero => show 0 = min t 0; omega
  | succ n ih =>
    have hl := tb_lt b (n + 1)
    by_cases hc : (lst b t n).2 < t ∧ tb b (n + 1) = 1
    · rw [show lst b t (n + 1) = _ from if_pos hc]
      show (lst b t n).2 + 1 = min t (cnt (tb b) n + tb b (n + 1))
      omega
    · rw [show lst b t (n + 1) = _ from if_neg hc]
      show (lst b t n).2 = min t (cnt (tb b) n + tb b (n + 1))
      omega
theorem lst_pc {b t n : Nat} (hn : n ≤ 16) (h : ∀ k, tb b k = 1 → 1 ≤ k ∧ k ≤ n) : (lst b t n).2 < t ↔ pcN b < t := by
  rw [lst_cnt, pc_cnt hn h]
  omega
theorem cmb_ext {b n : Nat} {pt : Nat → Nat} (h : ∀ k, tb b k = 1 → k ≤ n) : ∀ j, cmb b pt (n + j) = cmb b pt n := by
  intro j
  induction j with
  | zero => rfl
  | succ j ih =>
    rw [show cmb b pt (n + (j + 1)) = cmb b pt (n + j) from if_neg (fun q => by have h2 : n + j + 1 ≤ n := h (n + j + 1) q; omega)]
    exact ih
theorem wgt_ext {b n k : Nat} (h : ∀ k, tb b k = 1 → k ≤ n) : ∀ j, wgt b k (n + j) = wgt b k n := by
  intro j
  induction j with
  | zero => rfl
  | succ j ih =>
    rw [show wgt b k (n + (j + 1)) = wgt b k (n + j) from if_neg (fun q => by have h2 : n + j + 1 ≤ n := h (n + j + 1) q.2; omega)]
    exact ih
theorem cmb16 {b n : Nat} {pt : Nat → Nat} (hn : n ≤ 16) (h : ∀ k, tb b k = 1 → 1 ≤ k ∧ k ≤ n) : cmb b pt n = cmb b pt 16 := by
  have := cmb_ext (pt := pt) (fun k q => (h k q).2) (16 - n)
  rw [show n + (16 - n) = 16 by omega] at this
  exact this.symm
theorem wgt16 {b n k : Nat} (hn : n ≤ 16) (h : ∀ k, tb b k = 1 → 1 ≤ k ∧ k ≤ n) : wgt b k n = wgt b k 16 := by
  have := wgt_ext (k := k) (fun k q => (h k q).2) (16 - n)
  rw [show n + (16 - n) = 16 by omega] at this
  exact this.symm
def dif (k m : Nat) : Nat := if k < m then m - k else 1073741789 - (k - m)
theorem dif_lt {k m : Nat} (h : k ≠ m) (hk : k ≤ 16) (hm : m ≤ 16) : dif k m < 1073741789 := by
  unfold dif
  split <;> omega
theorem dif_inv0 : ∀ k, k < 17 → ∀ m, m < 17 → 1 ≤ k → 1 ≤ m → k ≠ m → fpw (dif k m) 1073741789 31 1073741787 = ivc k m := by decide +kernel
theorem dif_inv {k m : Nat} (hk : k ≤ 16) (hm : m ≤ 16) (h1 : 1 ≤ k) (h2 : 1 ≤ m) (h : k ≠ m) : dif k m ^ 1073741787 % 1073741789 = ivc k m := by
  rw [← fpw_ok (dif k m) 1073741789 31 1073741787 (by decide)]
  exact dif_inv0 k (by omega) m (by omega) h1 h2 h
theorem dif_md0 : ∀ k, k < 17 → ∀ m, m < 17 → k ≠ m → md (nI m - nI k).toInt64 1073741789 = dif k m := by decide +kernel
def ovr (b k : Nat) : Nat → Nat
  | 0 => 1
  | m + 1 => if m + 1 ≠ k ∧ tb b (m + 1) = 1 then ovr b k m * (m + 1) % 1073741789 else ovr b k m
def und (b k : Nat) : Nat → Nat
  | 0 => 1
  | m + 1 => if m + 1 ≠ k ∧ tb b (m + 1) = 1 then und b k m * dif k (m + 1) % 1073741789 else und b k m
theorem ovr_lt (b k : Nat) : ∀ m, ovr b k m < 1073741789 := by
  intro m
  induction m with
  | zero => exact (by decide : 1 < 1073741789)
  | succ m ih =>
    show (if _ then _ else _) < _
    by_cases h : m + 1 ≠ k ∧ tb b (m + 1) = 1
    · rw [if_pos h]; exact Nat.mod_lt _ (by decide)
    · rw [if_neg h]; exact ih
theorem und_lt (b k : Nat) : ∀ m, und b k m < 1073741789 := by
  intro m
  induction m with
  | zero => exact (by decide : 1 < 1073741789)
  | succ m ih =>
    show (if _ then _ else _) < _
    by_cases h : m + 1 ≠ k ∧ tb b (m + 1) = 1
    · rw [if_pos h]; exact Nat.mod_lt _ (by decide)
    · rw [if_neg h]; exact ih
theorem ou_step (o m u d e q : Nat) : (o * m % q) * ((u * d % q) ^ e % q) % q = (o * (u ^ e % q) % q) * (m * (d ^ e % q) % q) % q := by
  rw [pm1, Nat.mul_pow, ← mm3 (u ^ e) (d ^ e), mm2, mm1, mm3]
  congr 1
  rw [Nat.mul_assoc, Nat.mul_assoc, Nat.mul_left_comm m]
theorem ou_wgt {b k : Nat} (hk1 : 1 ≤ k) (hk : k ≤ 16) : ∀ m, m ≤ 16 → ovr b k m * (und b k m ^ 1073741787 % 1073741789) % 1073741789 = wgt b k m := by
  intro m
  induction m with
  | zero =>
    intro _
    show 1 * (1 ^ 1073741787 % 1073741789) % 1073741789 = 1
    rw [Nat.one_pow]
  | succ m ih =>
    intro hm
    have ih := ih (by omega)
    by_cases h : m + 1 ≠ k ∧ tb b (m + 1) = 1
    · rw [show ovr b k (m + 1) = _ from if_pos h, show und b k (m + 1) = _ from if_pos h, show wgt b k (m + 1) = _ from if_pos h, ou_step, ih, dif_inv hk hm hk1 (by omega) (fun q => h.1 q.symm)]
    · rw [show ovr b k (m + 1) = _ from if_neg h, show und b k (m + 1) = _ from if_neg h, show wgt b k (m + 1) = _ from if_neg h]
      exact ih
/-- how the reference holds the state -/
def RMo (ad : Nat → Nat) (w : Nat → va_E) (cd : Int32) (n t cl qu en kp : Nat) : Prop := ∃ hs : Int64, w 77 = .inr (4, [.int cd, .int (nI n), .int (nI t), .int (nI cl), .ref (ad 78), .ref (ad 79), .ref (ad 80), .ref (ad 81), .ref (ad 82), .ref (ad 83), .int (nI qu), .ref (ad 84), .ref (ad 85), .ref (ad 86), .int (nI en), .int (nI kp), .ref (ad 87), .long hs])
def RMd (cZ : ClassId) (w : Nat → va_E) (dl ou : Nat → Nat) : Prop := ∃ dz oz : Nat → Int32, w 78 = .inl (cZ, 17, .inl dz) ∧ w 79 = .inl (cZ, 17, .inl oz) ∧ ∀ i, i < 17 → dz i = nI (dl i) ∧ oz i = nI (ou i)
def RMc (cJ : ClassId) (w : Nat → va_E) (n t : Nat) (dl : Nat → Nat) (co sh : Nat → Nat → Nat) : Prop := ∃ cf mf sf : Nat → Int64, w 80 = .inl (cJ, 289, .inr (.inl cf)) ∧ w 81 = .inl (cJ, 289, .inr (.inl mf)) ∧ w 82 = .inl (cJ, 289, .inr (.inl sf)) ∧ ∀ i, 1 ≤ i → i ≤ n → dl i = 1 → (∀ j, j < t → cf (17 * i + j) = lN (co i j) ∧ mf (17 * i + j) = lN (4 ^ co i j % 2147483579)) ∧ ∀ k, 1 ≤ k → k ≤ n → sf (17 * i + k) = lN (sh i k)
def RMx (cZ : ClassId) (w : Nat → va_E) (cp : Nat → Nat) : Prop := ∃ xf : Nat → Int32, w 83 = .inl (cZ, 289, .inl xf) ∧ ∀ i k, i < 17 → k < 17 → xf (17 * i + k) = nI (tb (cp i) k)
def RMk (cJ : ClassId) (w : Nat → va_E) (n cl : Nat) (ks : Nat → Nat) : Prop := ∃ kyf swf : Nat → Int64, w 84 = .inl (cJ, 17, .inr (.inl kyf)) ∧ w 85 = .inl (cJ, 17, .inr (.inl swf)) ∧ (cl = 1 → ∀ k, k ≤ n → kyf k = lN (ks k) ∧ swf k = lN (4 ^ ks k % 2147483579))
def RMv (cJ : ClassId) (w : Nat → va_E) (cl en : Nat) (vs : Nat → Int64) : Prop := ∃ vlf : Nat → Int64, w 86 = .inl (cJ, 301, .inr (.inl vlf)) ∧ (cl = 1 → ∀ j, j ≤ en → vlf j = vs j)
def RMp (cJ : ClassId) (w : Nat → va_E) (kp : Nat) (pt : Nat → Nat) : Prop := ∃ plf : Nat → Int64, w 87 = .inl (cJ, 17, .inr (.inl plf)) ∧ ∀ k, tb kp k = 1 → plf k = lN (pt k)
def RM (ad : Nat → Nat) (cJ cZ : ClassId) (w : Nat → va_E) (cd : Int32) (n t cl qu en kp : Nat) (dl ou cp ks pt : Nat → Nat) (co sh : Nat → Nat → Nat) (vs : Nat → Int64) : Prop :=
  RMo ad w cd n t cl qu en kp ∧ RMd cZ w dl ou ∧ RMc cJ w n t dl co sh ∧ RMx cZ w cp ∧ RMk cJ w n cl ks ∧ RMv cJ w cl en vs ∧ RMp cJ w kp pt
section RMS
variable {ad : Nat → Nat} {cJ cZ : ClassId} {w u : Nat → va_E} {cd : Int32} {n t cl qu en kp : Nat} {dl ou cp ks pt : Nat → Nat} {co sh : Nat → Nat → Nat} {vs : Nat → Int64}
theorem RMd.of (h : RMd cZ w dl ou) (h1 : u 78 = w 78) (h2 : u 79 = w 79) : RMd cZ u dl ou := by
  obtain ⟨a, b, e1, e2, e3⟩ := h
  exact ⟨a, b, h1.trans e1, h2.trans e2, e3⟩
theorem RMc.of (h : RMc cJ w n t dl co sh) (h1 : u 80 = w 80) (h2 : u 81 = w 81) (h3 : u 82 = w 82) : RMc cJ u n t dl co sh := by
  obtain ⟨a, b, c, e1, e2, e3, e4⟩ := h
  exact ⟨a, b, c, h1.trans e1, h2.trans e2, h3.trans e3, e4⟩
theorem RMx.of (h : RMx cZ w cp) (h1 : u 83 = w 83) : RMx cZ u cp := by
  obtain ⟨a, e1, e2⟩ := h
  exact ⟨a, h1.trans e1, e2⟩
theorem RMk.of (h : RMk cJ w n cl ks) (h1 : u 84 = w 84) (h2 : u 85 = w 85) : RMk cJ u n cl ks := by
  obtain ⟨a, b, e1, e2, e3⟩ := h
  exact ⟨a, b, h1.trans e1, h2.trans e2, e3⟩
theorem RMv.of (h : RMv cJ w cl en vs) (h1 : u 86 = w 86) : RMv cJ u cl en vs := by
  obtain ⟨a, e1, e2⟩ := h
  exact ⟨a, h1.trans e1, e2⟩
theorem RMp.of (h : RMp cJ w kp pt) (h1 : u 87 = w 87) : RMp cJ u kp pt := by
  obtain ⟨a, e1, e2⟩ := h
  exact ⟨a, h1.trans e1, e2⟩
theorem RM.of (h : RM ad cJ cZ w cd n t cl qu en kp dl ou cp ks pt co sh vs) (he : ∀ z, 77 ≤ z → z ≤ 87 → u z = w z) : RM ad cJ cZ u cd n t cl qu en kp dl ou cp ks pt co sh vs := by
  obtain ⟨⟨hs, h1⟩, h2, h3, h4, h5, h6, h7⟩ := h
  exact ⟨⟨hs, (he 77 (by decide) (by decide)).trans h1⟩, h2.of (he 78 (by decide) (by decide)) (he 79 (by decide) (by decide)), h3.of (he 80 (by decide) (by decide)) (he 81 (by decide) (by decide)) (he 82 (by decide) (by decide)), h4.of (he 83 (by decide) (by decide)), h5.of (he 84 (by decide) (by decide)) (he 85 (by decide) (by decide)), h6.of (he 86 (by decide) (by decide)), h7.of (he 87 (by decide) (by decide))⟩
theorem RM.set77 {cd2 : Int32} {hs : Int64} (h : RM ad cJ cZ w cd n t cl qu en kp dl ou cp ks pt co sh vs) (he : ∀ z, z ≠ 77 → u z = w z) (h77 : u 77 = .inr (4, [.int cd2, .int (nI n), .int (nI t), .int (nI cl), .ref (ad 78), .ref (ad 79), .ref (ad 80), .ref (ad 81), .ref (ad 82), .ref (ad 83), .int (nI qu), .ref (ad 84), .ref (ad 85), .ref (ad 86), .int (nI en), .int (nI kp), .ref (ad 87), .long hs])) : RM ad cJ cZ u cd2 n t cl qu en kp dl ou cp ks pt co sh vs := by
  obtain ⟨_, h2, h3, h4, h5, h6, h7⟩ := h
  exact ⟨⟨hs, h77⟩, h2.of (he 78 (by decide)) (he 79 (by decide)), h3.of (he 80 (by decide)) (he 81 (by decide)) (he 82 (by decide)), h4.of (he 83 (by decide)), h5.of (he 84 (by decide)) (he 85 (by decide)), h6.of (he 86 (by decide)), h7.of (he 87 (by decide))⟩
end RMS

