theorem lastN_congr {n : Nat} {P Q : Nat → Bool} (h : ∀ j, j < n → P j = Q j) : lastN n P = lastN n Q := by
  induction n with
  | zero => rfl
  | succ n ih => simp only [lastN, h n (by omega), ih (fun j hj => h j (by omega))]
theorem nI_iff {a b : Nat} (ha : a < 2 ^ 31) (hb : b < 2 ^ 31) : nI a = nI b ↔ a = b := by
  constructor
  · intro h
    have := congrArg Int32.toInt h
    rw [nI_toInt ha, nI_toInt hb] at this
    omega
  · intro h; rw [h]
section S2
variable {q p : gRF} {n d k t v : Nat}
theorem s_isw (h : sI q p n d k t v) {s j : Nat} (hs : s < 8) (hj : j < n) : decide (q.1 7 j = nI s) = mIs p.1 (nI 0) (nI s) (-1) j := by
  obtain ⟨-, hn2, -⟩ := id h.ok
  obtain ⟨s1, h1, h2, h3⟩ := h.sub j hj
  unfold mIs
  rw [if_neg (nI_ne_m1 (by omega)), h2]
  rcases h3 with ⟨a, b, c⟩ | ⟨a, b, c⟩
  · rw [b, c, if_pos rfl]
    by_cases e : s1 = s
    · subst e; simp
    · have e1 : ¬ nI s1 = nI s := fun z => e ((nI_iff (by omega) (by omega)).mp z)
      rw [if_neg e1]; simp [e1]
  · rw [b, if_neg (show ¬ nI 1 = nI 0 by decide)]
    have e1 : ¬ nI s1 = nI s := fun z => by have := (nI_iff (by omega) (by omega)).mp z; omega
    simp [e1]
theorem s_isr (h : sI q p n d k t v) {g j : Nat} (hg : g < 4) (hj : j < n) : decide (q.1 7 j = nI (8 + g)) = mIs p.1 (nI 1) (nI g) (-1) j := by
  obtain ⟨-, hn2, -⟩ := id h.ok
  obtain ⟨s1, h1, h2, h3⟩ := h.sub j hj
  unfold mIs
  rw [if_neg (nI_ne_m1 (by omega)), h2]
  rcases h3 with ⟨a, b, c⟩ | ⟨a, b, c⟩
  · rw [b, if_neg (show ¬ nI 0 = nI 1 by decide)]
    have e1 : ¬ nI s1 = nI (8 + g) := fun z => by have := (nI_iff (by omega) (by omega)).mp z; omega
    simp [e1]
  · rw [b, c, if_pos rfl]
    by_cases e : s1 = 8 + g
    · subst e
      rw [show 8 + g - 8 = g by omega]
      simp
    · have e1 : ¬ nI s1 = nI (8 + g) := fun z => e ((nI_iff (by omega) (by omega)).mp z)
      have e2 : ¬ nI (s1 - 8) = nI g := fun z => e (by have := (nI_iff (by omega) (by omega)).mp z; omega)
      rw [if_neg e2]; simp [e1]
theorem s_val {so ta : Int32} (h : sI q p n d k t v) {s : Nat} (hs : s < 12) (hl : q.1 10 s = mLatest p.1 n so ta (-1)) : cValueNow q.1 (nI s) = mVal p.1 n so ta (-1) := by
  obtain ⟨-, hn2, -⟩ := id h.ok
  unfold cValueNow mVal
  rw [rAt_in hs (by decide), hl]
  by_cases e : mLatest p.1 n so ta (-1) = -1
  · rw [if_pos e, if_pos e]
  · rw [if_neg e, if_neg e]
    obtain ⟨j, h1, h2, -⟩ := lastN_ex e
    rw [show mLatest p.1 n so ta (-1) = nI j from h2, rAt_in (by omega) (by decide), nI_clamp (by omega)]
    exact (h.chg j h1).2.2
theorem s_lsw (h : sI q p n d k t v) {s : Nat} (hs : s < 8) : q.1 10 s = mLatest p.1 n (nI 0) (nI s) (-1) := (h.last s (by omega)).trans (lastN_congr fun _ hj => s_isw h hs hj)
theorem s_lri (h : sI q p n d k t v) {g : Nat} (hg : g < 4) : q.1 10 (8 + g) = mLatest p.1 n (nI 1) (nI g) (-1) := (h.last (8 + g) (by omega)).trans (lastN_congr fun _ hj => s_isr h hg hj)
theorem s_level (h : sI q p n d k t v) {s : Nat} (hs : s < 8) : cValueNow q.1 (nI s) = mVal p.1 n (nI 0) (nI s) (-1) := s_val h (by omega) (s_lsw h hs)
theorem s_runs (h : sI q p n d k t v) {g : Nat} (hg : g < 4) : cRuns q.1 (nI g) = mVal p.1 n (nI 1) (nI g) (-1) := by
  unfold cRuns cSubj
  rw [nI_add]
  exact s_val h (by omega) (s_lri h hg)
end S2
