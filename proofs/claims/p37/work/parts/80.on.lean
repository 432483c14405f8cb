theorem Lo_of {b : Int32} {m : Nat} (h : b = nI m) (hm : m < 256) : Lo b := by
  subst h
  intro y hy
  by_cases h32 : y < 32
  · have g : ∀ m, m < 256 → ∀ y, y < 32 → bB (nI m) y = true → y < 8 := by decide +kernel
    exact g m hm y h32 hy
  · rw [bB_ge (by omega)] at hy; cases hy
theorem bB_itO {P : Nat → Bool} {m y : Nat} (hm : m ≤ 8) (hy : y < 32) : bB (itN m (fun c b => b ||| (if P c then nI 0 else nI 1 <<< (nI c &&& 31))) (nI 0)) y = (decide (y < m) && !P y) := by
  induction m with
  | zero => rw [show itN 0 (fun c b => b ||| (if P c then nI 0 else nI 1 <<< (nI c &&& 31))) (nI 0) = (0 : Int32) from rfl, bB_0]; simp
  | succ m ih =>
    rw [itN_s, bB_or, ih (by omega)]
    have h1 : bB (if P m then nI 0 else nI 1 <<< (nI m &&& 31)) y = (decide (y = m) && !P m) := by
      cases e : P m with
      | true => rw [if_pos rfl, show nI 0 = (0 : Int32) from rfl, bB_0]; simp
      | false => rw [if_neg (by decide), bB_sh (by omega) hy]; simp
    rw [h1]
    by_cases e : y = m
    · subst e; simp
    · by_cases e2 : y < m
      · have : y < m + 1 := by omega
        simp [e, e2, this]
      · have : ¬ y < m + 1 := by omega
        simp [e, e2, this]
