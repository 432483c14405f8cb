theorem kHolder_m (f : Nat → Int32) (x : Int32) : kHolder f x = if mIn x (nI 0) (f 1 / nI 14 + nI 1) = true then 0 else 1 := by
  unfold kHolder mIn
  rw [nI_0]
  by_cases h1 : x < 0
  · rw [if_pos h1, if_pos h1]; rfl
  · rw [if_neg h1, if_neg h1]
    by_cases h3 : f 1 / nI 14 + nI 1 < x
    · rw [if_neg (by rw [Int32.le_iff_toInt_le]; rw [Int32.lt_iff_toInt_lt] at h3; omega), if_pos h3]; rfl
    · rw [if_pos (by rw [Int32.le_iff_toInt_le]; rw [Int32.lt_iff_toInt_lt] at h3; omega), if_neg h3]; rfl
section S3
variable {q p : gRF} {n d k t v : Nat} {x : Int32}
theorem s_holder (h : sI q p n d k t v) (hB : mIn x (nI 0) (p.2 1 / nI 14 + nI 1) = true) : rAt 42 (q.1 17) x = p.1 9 (cN x) := by
  obtain ⟨-, -, -, -, -, -, ht, ht2, -⟩ := id h.ok
  rw [ht, pk_div (by omega) (by decide) (by decide), nI_add] at hB
  obtain ⟨j, hj, e, e2⟩ := mIn_ex hB (by omega)
  rw [e2, e, rAt_in (by omega) (by decide)]
  exact h.hold j hj
theorem s_rest (h : sI q p n d k t v) {j : Nat} (hj : j < 6) : cRest q.1 (nI j) (nI t) = mRest p.1 p.2 j := by
  obtain ⟨-, -, -, -, -, -, ht, ht2, -⟩ := id h.ok
  unfold cRest mRest
  rw [rAt_in hj (by decide), ht]
  rcases h.rest j hj with ⟨a, b⟩ | ⟨y, hy, a, b⟩
  · rw [b, a, if_pos (show (-1 : Int32) < nI t by rw [Int32.lt_iff_toInt_lt, nI_toInt (by omega)]; have : (-1 : Int32).toInt = -1 := by decide
                                                  omega), if_pos rfl]
  · rw [a, b, if_neg (nI_ne_m1 (by omega)), nI_add, show nI (y + 12) - nI 12 = nI y from by rw [← nI_add]; simp]
    by_cases h1 : nI (y + 12) < nI t
    · rw [if_pos h1]
      by_cases h2 : nI t ≤ nI y
      · rw [if_pos h2]
      · rw [if_neg h2, if_pos h1]
    · rw [if_neg h1, if_neg h1]
end S3
