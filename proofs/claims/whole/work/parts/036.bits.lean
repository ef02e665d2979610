/-! the count of bits, looked at for all numbers below 2^17 -/
def bcOk : Nat → Nat → Bool
  | 0, n => Nat.beq (bcN n) (pcN n)
  | d + 1, n => bcOk d n && bcOk d (n + 2 ^ d)
theorem bcOk_at : ∀ (d n b : Nat), bcOk d n = true → n ≤ b → b < n + 2 ^ d → bcN b = pcN b := by
  intro d
  induction d with
  | zero =>
    intro n b h h1 h2
    have : b = n := by
      rw [Nat.pow_zero] at h2
      omega
    subst this
    exact Nat.eq_of_beq_eq_true h
  | succ d ih =>
    intro n b h h1 h2
    have h' : bcOk d n = true ∧ bcOk d (n + 2 ^ d) = true := by
      have h3 : (bcOk d n && bcOk d (n + 2 ^ d)) = true := h
      simpa using h3
    rw [Nat.pow_succ] at h2
    by_cases hb : b < n + 2 ^ d
    · exact ih n b h'.1 h1 hb
    · exact ih (n + 2 ^ d) b h'.2 (by omega) (by omega)
set_option maxRecDepth 100000 in
theorem bcOk_0 : bcOk 15 0 = true := by decide +kernel
set_option maxRecDepth 100000 in
theorem bcOk_1 : bcOk 15 32768 = true := by decide +kernel
set_option maxRecDepth 100000 in
theorem bcOk_2 : bcOk 15 65536 = true := by decide +kernel
set_option maxRecDepth 100000 in
theorem bcOk_3 : bcOk 15 98304 = true := by decide +kernel
theorem bc_pc {b : Nat} (h : b < 131072) : bcI (nI b) = nI (pcN b) := by
  rw [bcI_N h]
  congr 1
  rcases Nat.lt_or_ge b 32768 with h1 | h1
  · exact bcOk_at 15 0 b bcOk_0 (by omega) (by omega)
  rcases Nat.lt_or_ge b 65536 with h2 | h2
  · exact bcOk_at 15 32768 b bcOk_1 (by omega) (by omega)
  rcases Nat.lt_or_ge b 98304 with h3 | h3
  · exact bcOk_at 15 65536 b bcOk_2 (by omega) (by omega)
  · exact bcOk_at 15 98304 b bcOk_3 (by omega) (by omega)
