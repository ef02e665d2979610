/-! numbers: remainders, powers, bits -/
theorem nI_z {n : Nat} (h : n < 2 ^ 31) : nI n = 0 ↔ n = 0 := by
  rw [← nI_0]
  exact nI_eq h (by decide)
theorem mm1 (x a m : Nat) : x % m * a % m = x * a % m := by
  rw [Nat.mul_mod, Nat.mod_mod, ← Nat.mul_mod]
theorem mm2 (a x m : Nat) : a * (x % m) % m = a * x % m := by
  rw [Nat.mul_comm, mm1, Nat.mul_comm]
theorem mm3 (x y m : Nat) : x % m * (y % m) % m = x * y % m := (Nat.mul_mod x y m).symm
theorem pm1 (x k m : Nat) : (x % m) ^ k % m = x ^ k % m := (Nat.pow_mod x k m).symm
theorem pw_sq {a m k x : Nat} (h : x = a ^ k % m) : x * x % m = a ^ (2 * k) % m := by
  rw [h, mm3, ← Nat.pow_add, Nat.two_mul]
theorem pw_sm {a m k x : Nat} (h : x = a ^ k % m) : x * x % m * a % m = a ^ (2 * k + 1) % m := by
  rw [pw_sq h, mm1, ← Nat.pow_succ]
def fq (a m b x : Nat) : Nat := if b = 0 then x * x % m else x * x % m * a % m
def fpw (a m : Nat) : Nat → Nat → Nat
  | 0, _ => 1 % m
  | f + 1, e => fq a m (e % 2) (fpw a m f (e / 2))
theorem fpw_ok (a m : Nat) : ∀ f e : Nat, e < 2 ^ f → fpw a m f e = a ^ e % m := by
  intro f
  induction f with
  | zero =>
    intro e h
    have : e = 0 := by simpa using h
    subst this
    rfl
  | succ f ih =>
    intro e h
    have h2 : e / 2 < 2 ^ f := by
      rw [Nat.pow_succ] at h
      omega
    show fq a m (e % 2) (fpw a m f (e / 2)) = _
    unfold fq
    by_cases hb : e % 2 = 0
    · rw [if_pos hb, pw_sq (ih _ h2)]
      congr 2
      omega
    · rw [if_neg hb, pw_sm (ih _ h2)]
      congr 2
      omega
theorem g_q : 4 ^ 1073741789 % 2147483579 = 1 := by
  rw [← fpw_ok 4 2147483579 31 1073741789 (by decide)]
  decide +kernel
/-- exponents go modulo q, for what has order q -/
theorem pw_q {a m q : Nat} (h : a ^ q % m = 1 % m) (e : Nat) : a ^ (e % q) % m = a ^ e % m := by
  have h1 : a ^ e = (a ^ q) ^ (e / q) * a ^ (e % q) := by
    rw [← Nat.pow_mul, ← Nat.pow_add, Nat.div_add_mod]
  have h2 : (a ^ q) ^ (e / q) % m = 1 % m := by rw [Nat.pow_mod, h, ← Nat.pow_mod, Nat.one_pow]
  rw [h1, Nat.mul_mod, h2, ← Nat.mul_mod, Nat.one_mul]
theorem g_e (e : Nat) : 4 ^ (e % 1073741789) % 2147483579 = 4 ^ e % 2147483579 := pw_q (by rw [g_q]) e
theorem pw_lt (a e : Nat) {m : Nat} (hm : 0 < m) : a ^ e % m < m := Nat.mod_lt _ hm
/-- bits -/
def tb (b k : Nat) : Nat := b / 2 ^ k % 2
theorem tb_lt (b k : Nat) : tb b k < 2 := Nat.mod_lt _ (by decide)
theorem tb_test (b k : Nat) : tb b k = if b.testBit k = true then 1 else 0 := by
  unfold tb
  rw [Nat.testBit_eq_decide_div_mod_eq]
  have := Nat.mod_lt (b / 2 ^ k) (show 0 < 2 by decide)
  by_cases h : b / 2 ^ k % 2 = 1
  · simp [h]
  · simp [h]
    omega
theorem tb_eq1 {b k : Nat} : tb b k = 1 ↔ b.testBit k = true := by
  rw [tb_test]
  by_cases h : b.testBit k = true <;> simp [h]
theorem tb_or (b k j : Nat) : tb (b ||| 2 ^ k) j = if j = k then 1 else tb b j := by
  rw [tb_test, tb_test, Nat.testBit_or, Nat.testBit_two_pow]
  by_cases h : j = k
  · simp [h]
  · have : ¬ k = j := fun q => h q.symm
    simp [h, this]
theorem tb_big {b k n : Nat} (h : b < 2 ^ n) (hk : n ≤ k) : tb b k = 0 := by
  unfold tb
  rw [Nat.div_eq_of_lt (Nat.lt_of_lt_of_le h (Nat.pow_le_pow_right (by decide) hk))]
theorem or_lt {b k n : Nat} (h : b < 2 ^ n) (hk : k < n) : b ||| 2 ^ k < 2 ^ n := Nat.or_lt_two_pow h (Nat.pow_lt_pow_right (by decide) hk)
theorem div_step (e b : Nat) : e / 2 ^ b = 2 * (e / 2 ^ (b + 1)) + tb e b := by
  unfold tb
  rw [Nat.pow_succ, ← Nat.div_div_eq_div_mul]
  omega
/-- HASH, a step -/
def stirF (h x : Int64) : Int64 :=
  let s := (h + x) * 6364136223846793005 + 1442695040888963407
  let s2 := (s ^^^ (s.toUInt64 >>> ((nI 29).toInt64.toUInt64 &&& Int64.toUInt64 63)).toInt64) * 2862933555777941757
  s2 ^^^ (s2.toUInt64 >>> ((nI 32).toInt64.toUInt64 &&& Int64.toUInt64 63)).toInt64
/-- the remainder rounded down -/
def md (x : Int64) (b : Nat) : Nat := (x.toInt % (b : Int)).toNat
theorem md_lt (x : Int64) {b : Nat} (h : 0 < b) : md x b < b := by
  unfold md
  have h1 := Int.emod_lt_of_pos x.toInt (show (0 : Int) < b by omega)
  have h2 := Int.emod_nonneg x.toInt (show (b : Int) ≠ 0 by omega)
  omega
theorem md_nat {n b : Nat} (h : n < 2 ^ 63) : md (lN n) b = n % b := by
  unfold md
  rw [pk_lT h]
  omega
