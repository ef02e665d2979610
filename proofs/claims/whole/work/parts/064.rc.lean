/-! the state, and how the ring holds it -/
def OkS (n t cl qu en kp : Nat) (dl ou cp ks pt : Nat → Nat) (co sh : Nat → Nat → Nat) : Prop :=
  (n ≤ 16 ∧ t ≤ n ∧ cl ≤ 1 ∧ qu < 2 ^ 17 ∧ en ≤ 300 ∧ kp < 2 ^ 17) ∧ (∀ i, dl i ≤ 1 ∧ ou i ≤ 1 ∧ cp i < 2 ^ 17) ∧
  ((∀ k, tb qu k = 1 → 1 ≤ k ∧ k ≤ n) ∧ (∀ k, tb kp k = 1 → 1 ≤ k ∧ k ≤ n) ∧ (∀ i k, tb (cp i) k = 1 → (1 ≤ k ∧ k ≤ n) ∧ dl i = 1)) ∧
  (∀ i, 1 ≤ i → i ≤ n → dl i = 1 → (∀ j, j < t → co i j < 1073741789) ∧ ∀ k, 1 ≤ k → k ≤ n → sh i k < 1073741789) ∧
  (cl = 1 → (∀ k, k ≤ n → ks k < 1073741789) ∧ 1 ≤ t) ∧ (∀ k, tb kp k = 1 → pt k < 2147483579) ∧ (dl 0 = 0 ∧ ou 0 = 0 ∧ cp 0 = 0)
def RCo (ad : Nat → Nat) (w : Nat → va_E) (n t cl qu : Nat) (ks : Nat → Nat) : Prop := ∃ wh : Int32, w 0 = .inr (3, [.ref (ad 1), .ref (ad 70), .ref (ad 71), .ref (ad 72), .ref (ad 76), .int (nI n), .int (nI t), .int (nI cl), .int (nI qu), .int wh]) ∧ (cl = 1 → wh = nI (4 ^ ks 0 % 2147483579))
def RCa (ad : Nat → Nat) (cD : ClassId) (w : Nat → va_E) : Prop := ∃ df : Nat → Option Nat, w 1 = .inl (cD, 17, .inr (.inr (.inr (.inr df)))) ∧ ∀ i, i < 17 → df i = some (ad (2 + 4 * i))
def RCk (cI : ClassId) (w : Nat → va_E) (n cl : Nat) (ks : Nat → Nat) : Prop := ∃ kf pf : Nat → Int32, w 70 = .inl (cI, 17, .inl kf) ∧ w 71 = .inl (cI, 17, .inl pf) ∧ (cl = 1 → ∀ k, 1 ≤ k → k ≤ n → kf k = nI (ks k) ∧ pf k = nI (4 ^ ks k % 2147483579))
def RCr (ad : Nat → Nat) (cI cJ : ClassId) (w : Nat → va_E) (cl en kp : Nat) (pt : Nat → Nat) (vs : Nat → Int64) : Prop :=
  ∃ (msg : Int64) (bas : Int32) (vf : Nat → Int64) (ptf ivf : Nat → Int32), w 72 = .inr (1, [.ref (ad 73), .ref (ad 74), .ref (ad 75), .int (nI en), .int (nI kp), .long msg, .int bas]) ∧ w 73 = .inl (cJ, 301, .inr (.inl vf)) ∧ w 74 = .inl (cI, 17, .inl ptf) ∧ w 75 = .inl (cI, 16, .inl ivf) ∧
    (cl = 1 → msg = msgF (vs en) en ∧ bas = nI (basF (msgF (vs en) en)) ∧ ∀ j, j ≤ en → vf j = vs j) ∧ (∀ k, tb kp k = 1 → ptf k = nI (pt k)) ∧ ∀ d, 1 ≤ d → d < 16 → ivf d = nI (iv d)
def RCs (w : Nat → va_E) : Prop := ∃ a x y : Int32, w 76 = .inr (2, [.int a, .int x, .int y])
def RC (ad : Nat → Nat) (cI cJ cD : ClassId) (w : Nat → va_E) (n t cl qu en kp : Nat) (dl ou cp ks pt : Nat → Nat) (co sh : Nat → Nat → Nat) (vs : Nat → Int64) : Prop :=
  RCo ad w n t cl qu ks ∧ RCa ad cD w ∧ RCd ad cI w n t dl ou cp co sh ∧ RCk cI w n cl ks ∧ RCr ad cI cJ w cl en kp pt vs ∧ RCs w
theorem RCo.of {ad : Nat → Nat} {w u : Nat → va_E} {n t cl qu : Nat} {ks : Nat → Nat} (h : RCo ad w n t cl qu ks) (he : u 0 = w 0) : RCo ad u n t cl qu ks := by
  obtain ⟨wh, h1, h2⟩ := h
  exact ⟨wh, he.trans h1, h2⟩
theorem RCa.of {ad : Nat → Nat} {cD : ClassId} {w u : Nat → va_E} (h : RCa ad cD w) (he : u 1 = w 1) : RCa ad cD u := by
  obtain ⟨df, h1, h2⟩ := h
  exact ⟨df, he.trans h1, h2⟩
theorem RCk.of {cI : ClassId} {w u : Nat → va_E} {n cl : Nat} {ks : Nat → Nat} (h : RCk cI w n cl ks) (he : u 70 = w 70) (he2 : u 71 = w 71) : RCk cI u n cl ks := by
  obtain ⟨kf, pf, h1, h2, h3⟩ := h
  exact ⟨kf, pf, he.trans h1, he2.trans h2, h3⟩
theorem RCr.of {ad : Nat → Nat} {cI cJ : ClassId} {w u : Nat → va_E} {cl en kp : Nat} {pt : Nat → Nat} {vs : Nat → Int64} (h : RCr ad cI cJ w cl en kp pt vs) (he : ∀ z, 72 ≤ z → z ≤ 75 → u z = w z) : RCr ad cI cJ u cl en kp pt vs := by
  obtain ⟨a, b, c, d, f, h1, h2, h3, h4, h5⟩ := h
  exact ⟨a, b, c, d, f, (he 72 (by decide) (by decide)).trans h1, (he 73 (by decide) (by decide)).trans h2, (he 74 (by decide) (by decide)).trans h3, (he 75 (by decide) (by decide)).trans h4, h5⟩
theorem RCs.of {w u : Nat → va_E} (h : RCs w) (he : u 76 = w 76) : RCs u := by
  obtain ⟨a, x, y, h1⟩ := h
  exact ⟨a, x, y, he.trans h1⟩
theorem RC.of {ad : Nat → Nat} {cI cJ cD : ClassId} {w u : Nat → va_E} {n t cl qu en kp : Nat} {dl ou cp ks pt : Nat → Nat} {co sh : Nat → Nat → Nat} {vs : Nat → Int64} (h : RC ad cI cJ cD w n t cl qu en kp dl ou cp ks pt co sh vs) (he : ∀ z, z ≤ 76 → u z = w z) : RC ad cI cJ cD u n t cl qu en kp dl ou cp ks pt co sh vs :=
  ⟨h.1.of (he 0 (by decide)), h.2.1.of (he 1 (by decide)), h.2.2.1.of (fun z _ h2 => he z (by omega)), h.2.2.2.1.of (he 70 (by decide)) (he 71 (by decide)), h.2.2.2.2.1.of (fun z _ h2 => he z (by omega)), h.2.2.2.2.2.of (he 76 (by decide))⟩
theorem RCd.set {ad : Nat → Nat} {cI : ClassId} {w u : Nat → va_E} {n t : Nat} {dl ou cp dl2 ou2 cp2 : Nat → Nat} {co sh co2 sh2 : Nat → Nat → Nat} (h : RCd ad cI w n t dl ou cp co sh) {i : Nat} (he : ∀ z, 2 ≤ z → z ≤ 69 → (z < 2 + 4 * i ∨ 5 + 4 * i < z) → u z = w z) (hs : ∀ j, j ≠ i → dl2 j = dl j ∧ ou2 j = ou j ∧ cp2 j = cp j ∧ co2 j = co j ∧ sh2 j = sh j)
    (hi : ∃ cm rt gv : Nat → Int32, u (2 + 4 * i) = .inr (0, [.ref (ad (3 + 4 * i)), .ref (ad (4 + 4 * i)), .ref (ad (5 + 4 * i)), .int (nI (cp2 i)), .int (nI (dl2 i)), .int (nI (ou2 i))]) ∧ u (3 + 4 * i) = .inl (cI, 16, .inl cm) ∧ u (4 + 4 * i) = .inl (cI, 17, .inl rt) ∧ u (5 + 4 * i) = .inl (cI, 17, .inl gv) ∧
      (1 ≤ i → i ≤ n → dl2 i = 1 → (∀ j, j < t → cm j = nI (4 ^ co2 i j % 2147483579)) ∧ ∀ k, 1 ≤ k → k ≤ n → rt k = nI (rgt (co2 i) t k) ∧ gv k = nI (sh2 i k))) : RCd ad cI u n t dl2 ou2 cp2 co2 sh2 := by
  intro j hj
  by_cases hji : j = i
  · subst hji; exact hi
  · obtain ⟨cm, rt, gv, h1, h2, h3, h4, h5⟩ := h j hj
    obtain ⟨e1, e2, e3, e4, e5⟩ := hs j hji
    rw [e1, e2, e3, e4, e5]
    exact ⟨cm, rt, gv, (he _ (by omega) (by omega) (by omega)).trans h1, (he _ (by omega) (by omega) (by omega)).trans h2, (he _ (by omega) (by omega) (by omega)).trans h3, (he _ (by omega) (by omega) (by omega)).trans h4, h5⟩
