theorem sC1 (B : Bool) (a b : Int32) : gCode (nI 1) a b (if B = true then 0 else 1) = if B = true then nI 0 else nI 1 := by cases B <;> rfl
theorem sC0 {B : Bool} (h : (if B = true then 0 else 1) = 0) : B = true := by
  cases B with
  | false => exact absurd h (by decide)
  | true => rfl
theorem mIn_ex {x : Int32} {b : Nat} (h : mIn x (nI 0) (nI b) = true) (hb : b < 2 ^ 31) : ∃ j, j ≤ b ∧ x = nI j ∧ cN x = j := ⟨cN x, (mIn_le h hb).2, (mIn_le h hb).1, rfl⟩
theorem mIn_ex2 {x g : Int32} {n : Nat} (hg : g = nI n) (h : mIn x (nI 0) (g - nI 1) = true) (hn : n < 2 ^ 31) : ∃ j, j < n ∧ x = nI j ∧ cN x = j := ⟨cN x, (mIn_lt hg h hn).2, (mIn_lt hg h hn).1, rfl⟩
theorem sI.thr {q : gRF} {r : Nat → Nat → Int32} {f : Nat → Int32} {n d k t v : Nat} (h : sI q (r, f) n d k t v) (y : Int32) : sI q (r, upF f 0 y) n d k t v :=
  h
section S1
variable {q p : gRF} {n d k t v : Nat} {x : Int32}
theorem s_blots (h : sI q p n d k t v) (hB : mIn x (nI 0) (nI 5) = true) : rAt 6 (q.1 18) x = p.1 10 (cN x) := by
  obtain ⟨j, hj, e, e2⟩ := mIn_ex hB (by decide)
  rw [e2, e, rAt_in (by omega) (by decide)]
  exact (h.blot j (by omega)).1
theorem s_calls (h : sI q p n d k t v) (hB : mIn x (nI 0) (nI 5) = true) (y : Bool) : (if y then rAt 6 (q.1 21) x else rAt 6 (q.1 20) x) = if y then p.1 13 (cN x) else p.1 12 (cN x) := by
  obtain ⟨j, hj, e, e2⟩ := mIn_ex hB (by decide)
  rw [e2, e, rAt_in (by omega) (by decide), rAt_in (by omega) (by decide), (h.call j (by omega)).1, (h.call j (by omega)).2]
theorem s_openIn (h : sI q p n d k t v) (hB : mIn x (nI 0) (nI 3) = true) : rAt 4 (q.1 16) x = mOpen p.1 k x := by
  obtain ⟨j, hj, e, e2⟩ := mIn_ex hB (by decide)
  rw [e, rAt_in (by omega) (by decide)]
  exact h.opn j (by omega)
theorem s_inc (h : sI q p n d k t v) (hB : mIn x (nI 0) (p.2 6 - nI 1) = true) : nI 10 * rAt 200 (q.1 12) x + rAt 200 (q.1 11) x = nI 10 * p.1 15 (cN x) + p.1 14 (cN x) ∧ rAt 200 (q.1 13) x = p.1 16 (cN x) ∧ rAt 200 (q.1 14) x = p.1 17 (cN x) ∧ rAt 200 (q.1 15) x = p.1 18 (cN x) := by
  obtain ⟨-, -, -, -, hk, hk2, -⟩ := id h.ok
  obtain ⟨j, hj, e, e2⟩ := mIn_ex2 hk hB (by omega)
  obtain ⟨h1, h2, h3, h4, h5⟩ := h.inc j hj
  rw [e2, e, rAt_in (by omega) (by decide), rAt_in (by omega) (by decide), rAt_in (by omega) (by decide), rAt_in (by omega) (by decide), rAt_in (by omega) (by decide), h1, h2, h3, h4, h5]
  exact ⟨rfl, rfl, rfl, rfl⟩
theorem s_madeAt (h : sI q p n d k t v) (hB : mIn x (nI 0) (p.2 4 - nI 1) = true) : rAt 200 (q.1 6) x = p.1 8 (cN x) := by
  obtain ⟨hn, hn2, -⟩ := id h.ok
  obtain ⟨j, hj, e, e2⟩ := mIn_ex2 hn hB (by omega)
  rw [e2, e, rAt_in (by omega) (by decide)]
  exact (h.chg j hj).2.1
end S1
