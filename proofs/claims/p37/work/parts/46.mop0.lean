theorem mIn_le {x : Int32} {b : Nat} (h : mIn x (nI 0) (nI b) = true) (hb : b < 2 ^ 31) : x = nI (cN x) ∧ cN x ≤ b := by
  unfold mIn at h
  split at h
  · cases h
  · rename_i h1
    split at h
    · cases h
    · rename_i h2
      have e := nI_cN (x := x) h1
      have h3 : cN x < 2 ^ 31 := by
        obtain ⟨j, hj, e2⟩ := nI_of (x := x) h1
        show x.toNatClampNeg < _
        rw [e2, nI_clamp hj]; exact hj
      refine ⟨e, ?_⟩
      rw [e] at h2
      have h9 := mt (nI_ltI (a := b) (b := cN x) hb h3).mpr h2
      omega
theorem mIn_lt {x g : Int32} {n : Nat} (hg : g = nI n) (h : mIn x (nI 0) (g - nI 1) = true) (hn : n < 2 ^ 31) : x = nI (cN x) ∧ cN x < n := by
  subst hg
  cases n with
  | zero =>
    exfalso
    unfold mIn at h
    split at h
    · cases h
    · rename_i h1
      split at h
      · cases h
      · rename_i h2
        exact h2 (by
          rw [Int32.lt_iff_toInt_lt] at h1 ⊢
          have e : (nI 0 - nI 1).toInt = -1 := by decide
          rw [nI_toInt (by decide)] at h1
          rw [e]
          omega)
  | succ m =>
    rw [show nI (m + 1) - nI 1 = nI m from by rw [← nI_add]; simp] at h
    obtain ⟨h1, h2⟩ := mIn_le h (by omega)
    exact ⟨h1, by omega⟩
theorem mHalf_ok {n d t : Nat} {q : gRF} (h : mG n d t q) (ht9 : t < 560) : mG n d (t + 1) (mHalf n d q) ∧ kOf q.2 ≤ kOf (mHalf n d q).2 := by
  have hB := mB0_ok (q := q) h ht9
  obtain ⟨hBg, hBk⟩ := mG_k hB
  obtain ⟨hZg, hZk⟩ := mZ_ok (n := n) (d := d) (q := q) hBg 4
  have hT : cTime q.2 = t := by
    obtain ⟨-, -, -, -, -, -, ht, ht2, -, -⟩ := id h
    show (q.2 1).toNatClampNeg = t
    rw [ht, nI_clamp (by omega)]
  unfold mHalf
  rw [hT]
  split
  · obtain ⟨g1, g2⟩ := mRg_ok (h := ((mZ n d q 4).1.1 9 ((t + 1) / 14)).toNatClampNeg) (a := kOf q.2) (b := kOf (mZ n d q 4).1.2 - kOf q.2) hZg
    exact ⟨g1, by rw [g2]; omega⟩
  · exact ⟨hZg, by omega⟩
def mPass (n d i : Nat) (q : gRF) : gRF := itN i (fun _ => mHalf n d) q
theorem mPass_s (n d i : Nat) (q : gRF) : mPass n d (i + 1) q = mHalf n d (mPass n d i q) := by simp only [mPass, itN_s i]
theorem mPass_ok {n d t : Nat} {q : gRF} (h : mG n d t q) (i : Nat) (hi : t + i ≤ 560) : mG n d (t + i) (mPass n d i q) := by
  induction i with
  | zero => exact h
  | succ i ih =>
    have h1 := (mHalf_ok (ih (by omega)) (by omega)).1
    rw [mPass_s]
    exact h1
def mPassQ (r : Nat → Nat → Int32) (f : Nat → Int32) (n d : Nat) (x : Int32) : gRF :=
  if mIn x (nI 1) (nI 28) then (if f 1 + x ≤ nI 560 then mPass n d (cN x) (r, upF f 0 (nI 0)) else (r, upF f 0 (nI 2))) else (r, upF f 0 (nI 1))
def mPassA (r : Nat → Nat → Int32) (f : Nat → Int32) (n d : Nat) (x : Int32) : Int32 :=
  if mIn x (nI 1) (nI 28) then (if f 1 + x ≤ nI 560 then (mPass n d (cN x) (r, upF f 0 (nI 0))).2 6 - f 6 else nI 0) else nI 0
def mNx (r : Nat → Nat → Int32) (f : Nat → Int32) (n : Nat) (x : Int32) : Int32 := if x = 0 then f 2 - nI 1 else mVal r n (nI 1) (x - nI 1) (-1)
def mRoll (r : Nat → Nat → Int32) (f : Nat → Int32) (n k : Nat) (x : Int32) : Int32 := if mVal r n (nI 1) x (-1) = mNx r f n x then -1 else if mHeld r f n k (cN x) (mNx r f n x) then -1 else mNx r f n x
