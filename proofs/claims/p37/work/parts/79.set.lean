theorem bB_with {b : Int32} {c y : Nat} (hc : c < 32) (hy : y < 32) (s : Bool) : bB (cWithBit b (nI c) s) y = if y = c then s else bB b y := by
  unfold cWithBit
  cases s with
  | false =>
    rw [if_neg (by decide), bB_and, bB_not _ hy, bB_sh hc hy]
    by_cases e : y = c <;> simp [e]
  | true =>
    rw [if_pos rfl, bB_or, bB_sh hc hy]
    by_cases e : y = c <;> simp [e]
theorem bB_itW {P : Nat → Bool} {m y : Nat} (hm : m ≤ 8) (hy : y < 32) : bB (itN m (fun c b => cWithBit b (nI c) (P c)) (nI 0)) y = (decide (y < m) && P y) := by
  induction m with
  | zero => rw [show itN 0 (fun c b => cWithBit b (nI c) (P c)) (nI 0) = (0 : Int32) from rfl, bB_0]; simp
  | succ m ih =>
    rw [itN_s, bB_with (by omega) hy, ih (by omega)]
    by_cases e : y = m
    · subst e; simp
    · rw [if_neg e]
      by_cases e2 : y < m
      · have : y < m + 1 := by omega
        simp [e2, this]
      · have : ¬ y < m + 1 := by omega
        simp [e2, this]
