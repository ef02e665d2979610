/-! the state stays well-formed -/
section OKS
variable {n t cl qu en kp : Nat} {dl ou cp ks pt : Nat → Nat} {co sh : Nat → Nat → Nat}
theorem ok_begin {n2 t2 : Nat} (g2 : n2 ≤ 16) (g4 : t2 ≤ n2) : OkS n2 t2 0 0 0 0 (fun _ => 0) (fun _ => 0) (fun _ => 0) ks pt co sh := by
  refine ⟨⟨g2, g4, by decide, by decide, by decide, by decide⟩, fun _ => ⟨Nat.zero_le _, Nat.zero_le _, (by decide : (0 : Nat) < 2 ^ 17)⟩, ⟨fun k q => absurd q (by rw [tb_zero]; decide), fun k q => absurd q (by rw [tb_zero]; decide), fun i k q => absurd q (by rw [tb_zero]; decide)⟩, fun i _ _ (q : (0 : Nat) = 1) => absurd q (by decide), fun q => absurd q (by decide), fun k q => absurd q (by rw [tb_zero]; decide), ⟨rfl, rfl, rfl⟩⟩
theorem ok_deal (h : OkS n t cl qu en kp dl ou cp ks pt co sh) {i : Nat} (hi1 : 1 ≤ i) (seed : Int64) : OkS n t cl qu en kp (va_up dl i 1) ou cp ks pt (va_up co i (coF seed i)) (va_up sh i (rgt (coF seed i) t)) := by
  obtain ⟨h1, h2, ⟨h3, h4, h5⟩, h6, h7, h8, ⟨z1, z2, z3⟩⟩ := h
  refine ⟨h1, fun j => ?_, ⟨h3, h4, fun j k q => ?_⟩, fun j g1 g2 g3 => ?_, h7, h8, ⟨?_, z2, z3⟩⟩
  · by_cases hj : j = i
    · subst hj; rw [va_up_self]; exact ⟨by decide, (h2 j).2⟩
    · rw [va_up_ne _ _ hj]; exact h2 j
  · by_cases hj : j = i
    · subst hj; rw [va_up_self]; exact ⟨(h5 j k q).1, rfl⟩
    · rw [va_up_ne _ _ hj]; exact h5 j k q
  · by_cases hj : j = i
    · subst hj; rw [va_up_self, va_up_self]; exact ⟨fun x _ => coF_lt _ _ _, fun k _ _ => rgt_lt _ _ _⟩
    · rw [va_up_ne _ _ hj] at g3
      rw [va_up_ne _ _ hj, va_up_ne _ _ hj]; exact h6 j g1 g2 g3
  · rw [va_up_ne _ _ (by omega)]; exact z1
theorem ok_sh (h : OkS n t cl qu en kp dl ou cp ks pt co sh) {i k x : Nat} (hx : x < 1073741789) : OkS n t cl qu en kp dl ou cp ks pt co (va_up sh i (va_up (sh i) k x)) := by
  obtain ⟨h1, h2, h3, h6, h7, h8, h9⟩ := h
  refine ⟨h1, h2, h3, fun j g1 g2 g3 => ⟨(h6 j g1 g2 g3).1, fun k2 g4 g5 => ?_⟩, h7, h8, h9⟩
  by_cases hj : j = i
  · subst hj; rw [va_up_self]
    by_cases hk : k2 = k
    · subst hk; rw [va_up_self]; exact hx
    · rw [va_up_ne _ _ hk]; exact (h6 j g1 g2 g3).2 k2 g4 g5
  · rw [va_up_ne _ _ hj]; exact (h6 j g1 g2 g3).2 k2 g4 g5
theorem ok_complain (h : OkS n t cl qu en kp dl ou cp ks pt co sh) : OkS n t cl qu en kp dl ou (fun i => if 1 ≤ i ∧ i ≤ n ∧ dl i = 1 then gath (cp i) (sh i) (rgt (co i) t) n else cp i) ks pt co sh := by
  obtain ⟨h1, h2, ⟨h3, h4, h5⟩, h6, h7, h8, ⟨z1, z2, z3⟩⟩ := h
  refine ⟨h1, fun j => ⟨(h2 j).1, (h2 j).2.1, gath_lt2 h1.1 (fun i => (h2 i).2.2) j⟩, ⟨h3, h4, ncp_b h5⟩, h6, h7, h8, ⟨z1, z2, ?_⟩⟩
  dsimp only
  rw [if_neg (by omega)]
  exact z3
theorem ok_clr (h : OkS n t cl qu en kp dl ou cp ks pt co sh) {i k : Nat} (hi1 : 1 ≤ i) (hk : k < 17) : OkS n t cl qu en kp dl ou (va_up cp i (clr (cp i) k)) ks pt co sh := by
  obtain ⟨h1, h2, ⟨h3, h4, h5⟩, h6, h7, h8, ⟨z1, z2, z3⟩⟩ := h
  refine ⟨h1, fun j => ?_, ⟨h3, h4, fun j k2 q => ?_⟩, h6, h7, h8, ⟨z1, z2, ?_⟩⟩
  · by_cases hj : j = i
    · subst hj; rw [va_up_self]; exact ⟨(h2 j).1, (h2 j).2.1, Nat.lt_of_le_of_lt Nat.and_le_left (h2 j).2.2⟩
    · rw [va_up_ne _ _ hj]; exact h2 j
  · by_cases hj : j = i
    · subst hj
      rw [va_up_self, tb_clr (h2 j).2.2 hk] at q
      by_cases hkk : k2 = k
      · rw [if_pos hkk] at q; exact absurd q (by decide)
      · rw [if_neg hkk] at q; exact h5 j k2 q
    · rw [va_up_ne _ _ hj] at q; exact h5 j k2 q
  · rw [va_up_ne _ _ (by omega)]; exact z3
theorem ok_out (h : OkS n t cl qu en kp dl ou cp ks pt co sh) {i : Nat} (hi1 : 1 ≤ i) : OkS n t cl qu en kp dl (va_up ou i 1) cp ks pt co sh := by
  obtain ⟨h1, h2, h3, h6, h7, h8, ⟨z1, z2, z3⟩⟩ := h
  refine ⟨h1, fun j => ?_, h3, h6, h7, h8, ⟨z1, ?_, z3⟩⟩
  · by_cases hj : j = i
    · subst hj; rw [va_up_self]; exact ⟨(h2 j).1, by decide, (h2 j).2.2⟩
    · rw [va_up_ne _ _ hj]; exact h2 j
  · rw [va_up_ne _ _ (by omega)]; exact z2
theorem ok_close (h : OkS n t cl qu en kp dl ou cp ks pt co sh) (ht1 : 1 ≤ t) : OkS n t 1 (qf dl ou cp n) 0 0 dl ou cp (ksF (qf dl ou cp n) co sh n) pt co sh := by
  obtain ⟨⟨a1, a2, a3, a4, a5, a6⟩, h2, ⟨h3, h4, h5⟩, h6, h7, h8, h9⟩ := h
  exact ⟨⟨a1, a2, by decide, qf_lt _ _ _ n a1, by decide, by decide⟩, h2, ⟨fun k q => (qf_dl k q).1, fun k q => absurd q (by rw [tb_zero]; decide), h5⟩, h6, fun _ => ⟨fun k _ => ksF_lt _ _ _ _ _, ht1⟩, fun k q => absurd q (by rw [tb_zero]; decide), h9⟩
theorem ok_offer (h : OkS n t cl qu en kp dl ou cp ks pt co sh) {k a2 : Nat} (hk1 : 1 ≤ k) (hk2 : k ≤ n) (ha : a2 < 2147483579) : OkS n t cl qu en (kp ||| 2 ^ k) dl ou cp ks (va_up pt k a2) co sh := by
  obtain ⟨⟨a1, a2', a3, a4, a5, a6⟩, h2, ⟨h3, h4, h5⟩, h6, h7, h8, h9⟩ := h
  refine ⟨⟨a1, a2', a3, a4, a5, or_lt a6 (by omega)⟩, h2, ⟨h3, fun j q => ?_, h5⟩, h6, h7, fun j q => ?_, h9⟩
  · rw [tb_or] at q
    by_cases hj : j = k
    · omega
    · rw [if_neg hj] at q; exact h4 j q
  · rw [tb_or] at q
    by_cases hj : j = k
    · subst hj; rw [va_up_self]; exact ha
    · rw [if_neg hj] at q; rw [va_up_ne _ _ hj]; exact h8 j q
theorem ok_publish (h : OkS n t cl qu en kp dl ou cp ks pt co sh) (he : en < 300) : OkS n t cl qu (en + 1) 0 dl ou cp ks pt co sh := by
  obtain ⟨⟨a1, a2, a3, a4, a5, a6⟩, h2, ⟨h3, h4, h5⟩, h6, h7, h8, h9⟩ := h
  exact ⟨⟨a1, a2, a3, a4, by omega, by decide⟩, h2, ⟨h3, fun k q => absurd q (by rw [tb_zero]; decide), h5⟩, h6, h7, fun k q => absurd q (by rw [tb_zero]; decide), h9⟩
end OKS
theorem rng_of {x : Int32} {b : Nat} (hb : b < 2 ^ 31) (h : ¬ (x < 0 ∨ ¬ x ≤ nI b)) : ∃ j : Nat, j ≤ b ∧ x = nI j := by
  have h1 : ¬ x < 0 := fun q => h (Or.inl q)
  have h2 : x ≤ nI b := Classical.byContradiction (fun q => h (Or.inr q))
  obtain ⟨j, hj, rfl⟩ := nI_of h1
  rw [nI_leI (by omega) (by omega)] at h2
  exact ⟨j, h2, rfl⟩
