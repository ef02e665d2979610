/-! remainders of longs; bits counted -/
theorem emod_of_tmod (x b : Int) : x % b = x.tmod b % b := by
  have h := Int.tmod_def x b
  generalize x.tmod b = r at h ⊢
  generalize x.tdiv b = q at h
  have hx : x = r + b * q := by omega
  rw [hx, Int.add_mul_emod_self_left]
theorem l_nn (x : Int64) : 0 ≤ x ↔ x.toBitVec.msb = false := by
  rw [Int64.le_iff_toInt_le, BitVec.msb_eq_toInt]
  show (0 : Int64).toInt ≤ x.toInt ↔ decide (x.toInt < 0) = false
  rw [show (0 : Int64).toInt = 0 by decide]
  simp
theorem l_xor_nn {x y : Int64} (hy : 0 ≤ y) : 0 ≤ x ^^^ y ↔ 0 ≤ x := by
  rw [l_nn] at hy
  rw [l_nn, l_nn, Int64.toBitVec_xor, BitVec.msb_xor, hy]
  simp
theorem lN_nn {b : Nat} (h : b < 2 ^ 63) : (0 : Int64) ≤ lN b := by
  rw [Int64.le_iff_toInt_le, pk_lT h, show (0 : Int64).toInt = 0 by decide]
  omega
theorem md_int (x : Int64) {b : Nat} (h : 0 < b) : (md x b : Int) = x.toInt % (b : Int) := by
  unfold md
  have h2 := Int.emod_nonneg x.toInt (show (b : Int) ≠ 0 by omega)
  omega
theorem rem_nn {x : Int64} {b : Nat} (h0 : 0 < b) (hb : b < 2 ^ 31) (hx : 0 ≤ x) : x - x / lN b * lN b = lN (md x b) := by
  apply Int64.toInt_inj.mp
  have hm := md_lt x h0
  have hx' : 0 ≤ x.toInt := by
    have := Int64.le_iff_toInt_le.mp hx
    rwa [show (0 : Int64).toInt = 0 by decide] at this
  rw [Jvm.Kit.i64_rem, pk_lT (by omega), pk_lT (by omega), md_int x h0, Int.tmod_eq_emod_of_nonneg hx']
theorem rem_z {x : Int64} {b : Nat} (h0 : 0 < b) (hb : b < 2 ^ 31) (hz : x - x / lN b * lN b = lN 0) : x - x / lN b * lN b = lN (md x b) := by
  have h1 : x.toInt.tmod (b : Int) = 0 := by
    have := congrArg Int64.toInt hz
    rwa [Jvm.Kit.i64_rem, pk_lT (by omega), pk_lT (by decide)] at this
  have h2 : md x b = 0 := by
    have := md_int x h0
    rw [emod_of_tmod, h1] at this
    simpa using this
  rw [hz, h2]
theorem rem_neg {x : Int64} {b : Nat} (h0 : 0 < b) (hb : b < 2 ^ 31) (hx : ¬ 0 ≤ x) (hz : ¬ x - x / lN b * lN b = lN 0) : x - x / lN b * lN b + lN b = lN (md x b) := by
  have hm := md_lt x h0
  have hx' : x.toInt < 0 := by
    have h : ¬ (0 : Int64).toInt ≤ x.toInt := fun q => hx (Int64.le_iff_toInt_le.mpr q)
    rw [show (0 : Int64).toInt = 0 by decide] at h
    omega
  have ht : (x - x / lN b * lN b).toInt = x.toInt.tmod (b : Int) := by rw [Jvm.Kit.i64_rem, pk_lT (by omega)]
  have hlt := tmod_bounds (a := x.toInt) (M := (b : Int)) (by omega)
  have hle : x.toInt.tmod (b : Int) ≤ 0 := by
    have h1 := Int.tmod_nonneg (b : Int) (show 0 ≤ -x.toInt by omega)
    rw [Int.neg_tmod] at h1
    omega
  have hne : x.toInt.tmod (b : Int) ≠ 0 := by
    intro q
    apply hz
    apply Int64.toInt_inj.mp
    rw [ht, q, pk_lT (by decide)]
    rfl
  have hmd : (md x b : Int) = x.toInt.tmod (b : Int) + b := by
    rw [md_int x h0, emod_of_tmod]
    generalize x.toInt.tmod (b : Int) = r at *
    have := Int.emod_eq_of_lt (a := r + b) (b := (b : Int)) (by omega) (by omega)
    rw [← this, Int.add_emod_right]
  apply Int64.toInt_inj.mp
  rw [Int64.toInt_add, ht, pk_lT (by omega), pk_lT (by omega), hmd]
  rw [Int.bmod_def]
  omega
def bcI (x : Int32) : Int32 :=
  let i1 := x - ((x.toUInt32 >>> ((nI 1).toUInt32 &&& Int32.toUInt32 31)).toInt32 &&& nI 1431655765)
  let i2 := (i1 &&& nI 858993459) + ((i1.toUInt32 >>> ((nI 2).toUInt32 &&& Int32.toUInt32 31)).toInt32 &&& nI 858993459)
  let i3 := (i2 + (i2.toUInt32 >>> ((nI 4).toUInt32 &&& Int32.toUInt32 31)).toInt32) &&& nI 252645135
  let i4 := i3 + (i3.toUInt32 >>> ((nI 8).toUInt32 &&& Int32.toUInt32 31)).toInt32
  let i5 := i4 + (i4.toUInt32 >>> ((nI 16).toUInt32 &&& Int32.toUInt32 31)).toInt32
  i5 &&& nI 63
def bN1 (b : Nat) : Nat := b - ((b / 2) &&& 1431655765)
def bN2 (b : Nat) : Nat := (b &&& 858993459) + ((b / 4) &&& 858993459)
def bN3 (b : Nat) : Nat := (b + b / 16) &&& 252645135
def bN4 (b : Nat) : Nat := b + b / 256
def bN5 (b : Nat) : Nat := b + b / 65536
def bcN (b : Nat) : Nat := bN5 (bN4 (bN3 (bN2 (bN1 b)))) &&& 63
def pcN (b : Nat) : Nat := tb b 0 + tb b 1 + tb b 2 + tb b 3 + tb b 4 + tb b 5 + tb b 6 + tb b 7 + tb b 8 + tb b 9 + tb b 10 + tb b 11 + tb b 12 + tb b 13 + tb b 14 + tb b 15 + tb b 16
theorem nI_and (a b : Nat) : nI a &&& nI b = nI (a &&& b) := by
  apply Int32.toBitVec_inj.mp
  rw [Int32.toBitVec_and]
  show BitVec.ofNat 32 a &&& BitVec.ofNat 32 b = BitVec.ofNat 32 (a &&& b)
  rw [BitVec.ofNat_and]
theorem bcI_N {b : Nat} (h : b < 131072) : bcI (nI b) = nI (bcN b) := by
  have u : ∀ {n : Nat} (k : Nat) (s : Int32), n < 2 ^ 32 → ((s.toUInt32 &&& Int32.toUInt32 31).toBitVec % 32).toNat = k → ((nI n).toUInt32 >>> (s.toUInt32 &&& Int32.toUInt32 31)).toInt32 = nI (n / 2 ^ k) := fun k s hn hs => pk_ushrN hn s k hs
  have a1 : (b / 2) &&& 1431655765 ≤ b / 2 := Nat.and_le_left
  have h1 : bN1 b ≤ b := Nat.sub_le _ _
  have a2 : bN1 b &&& 858993459 ≤ bN1 b := Nat.and_le_left
  have a3 : (bN1 b / 4) &&& 858993459 ≤ bN1 b / 4 := Nat.and_le_left
  have h2 : bN2 (bN1 b) ≤ bN1 b + bN1 b / 4 := Nat.add_le_add a2 a3
  have h3 : bN3 (bN2 (bN1 b)) ≤ bN2 (bN1 b) + bN2 (bN1 b) / 16 := Nat.and_le_left
  have h4 : bN4 (bN3 (bN2 (bN1 b))) = bN3 (bN2 (bN1 b)) + bN3 (bN2 (bN1 b)) / 256 := rfl
  have e1 : nI b - (((nI b).toUInt32 >>> ((nI 1).toUInt32 &&& Int32.toUInt32 31)).toInt32 &&& nI 1431655765) = nI (bN1 b) := by
    rw [u 1 (nI 1) (by omega) (by decide), nI_and, pk_sub (Nat.le_trans Nat.and_le_left (Nat.div_le_self _ _))]
    rfl
  have e2 : (nI (bN1 b) &&& nI 858993459) + (((nI (bN1 b)).toUInt32 >>> ((nI 2).toUInt32 &&& Int32.toUInt32 31)).toInt32 &&& nI 858993459) = nI (bN2 (bN1 b)) := by
    rw [u 2 (nI 2) (by omega) (by decide), nI_and, nI_and, nI_add]
    rfl
  have e3 : (nI (bN2 (bN1 b)) + ((nI (bN2 (bN1 b))).toUInt32 >>> ((nI 4).toUInt32 &&& Int32.toUInt32 31)).toInt32) &&& nI 252645135 = nI (bN3 (bN2 (bN1 b))) := by
    rw [u 4 (nI 4) (by omega) (by decide), nI_add, nI_and]
    rfl
  have e4 : nI (bN3 (bN2 (bN1 b))) + ((nI (bN3 (bN2 (bN1 b)))).toUInt32 >>> ((nI 8).toUInt32 &&& Int32.toUInt32 31)).toInt32 = nI (bN4 (bN3 (bN2 (bN1 b)))) := by
    rw [u 8 (nI 8) (by omega) (by decide), nI_add]
    rfl
  have e5 : nI (bN4 (bN3 (bN2 (bN1 b)))) + ((nI (bN4 (bN3 (bN2 (bN1 b))))).toUInt32 >>> ((nI 16).toUInt32 &&& Int32.toUInt32 31)).toInt32 = nI (bN5 (bN4 (bN3 (bN2 (bN1 b))))) := by
    rw [u 16 (nI 16) (by omega) (by decide), nI_add]
    rfl
  unfold bcI
  dsimp only
  rw [e1, e2, e3, e4, e5, nI_and]
  rfl
