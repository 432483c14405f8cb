def bB (b : Int32) (c : Nat) : Bool := b.toBitVec.getLsbD c
theorem bB_or (a b : Int32) (c : Nat) : bB (a ||| b) c = (bB a c || bB b c) := by simp [bB]
theorem bB_and (a b : Int32) (c : Nat) : bB (a &&& b) c = (bB a c && bB b c) := by simp [bB]
theorem bB_m1 {c : Nat} (h : c < 32) : bB (-1) c = true := by
  have : ∀ c, c < 32 → bB (-1) c = true := by decide +kernel
  exact this c h
theorem bB_not (a : Int32) {c : Nat} (h : c < 32) : bB (a ^^^ (-1)) c = !bB a c := by
  have h1 : bB (a ^^^ (-1)) c = (bB a c ^^ bB (-1) c) := by simp only [bB, Int32.toBitVec_xor, BitVec.getLsbD_xor]
  rw [h1, bB_m1 h]
  cases bB a c <;> rfl
theorem bB_sh {i c : Nat} (hi : i < 32) (hc : c < 32) : bB (nI 1 <<< (nI i &&& 31)) c = decide (c = i) := by
  have : ∀ i, i < 32 → ∀ c, c < 32 → bB (nI 1 <<< (nI i &&& 31)) c = decide (c = i) := by decide +kernel
  exact this i hi c hc
theorem bB_0 (c : Nat) : bB 0 c = false := by simp [bB]
theorem bB_ext {a b : Int32} (h : ∀ c, c < 32 → bB a c = bB b c) : a = b := by
  apply Int32.toBitVec_inj.mp
  apply BitVec.eq_of_getLsbD_eq
  intro i hi
  exact h i hi
theorem bB_has (b : Int32) {c : Nat} (h : c < 32) : decide ((b >>> (nI c &&& 31)) &&& nI 1 = nI 1) = bB b c := by
  have h1 : ∀ c, c < 32 → (nI c &&& 31).toBitVec.smod 32 = BitVec.ofNat 32 c := by decide +kernel
  have h2 : (b >>> (nI c &&& 31)).toBitVec = b.toBitVec.sshiftRight c := by
    rw [Int32.toBitVec_shiftRight, h1 c h, BitVec.sshiftRight_eq', BitVec.toNat_ofNat, Nat.mod_eq_of_lt (by omega)]
  have h3 : bB ((b >>> (nI c &&& 31)) &&& nI 1) 0 = bB b c := by
    rw [bB_and]
    unfold bB
    rw [h2, BitVec.getLsbD_sshiftRight]
    have e : (nI 1).toBitVec.getLsbD 0 = true := by decide
    rw [e]
    simp
    omega
  by_cases e : (b >>> (nI c &&& 31)) &&& nI 1 = nI 1
  · rw [decide_eq_true e]
    rw [e] at h3
    exact (show true = bB (nI 1) 0 by decide).trans h3
  · rw [decide_eq_false e]
    cases e9 : bB b c with
    | false => rfl
    | true =>
      exfalso
      apply e
      apply bB_ext
      intro i hi
      by_cases hi0 : i = 0
      · subst hi0; rw [h3, e9]; decide
      · rw [bB_and]
        have e2 : bB (nI 1) i = false := by
          have : ∀ i, i < 32 → ¬ i = 0 → bB (nI 1) i = false := by decide +kernel
          exact this i hi hi0
        rw [e2]; simp
