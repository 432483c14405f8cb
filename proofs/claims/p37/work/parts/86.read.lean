theorem mHI_any {r : Nat → Nat → Int32} {k g : Nat} {b : Bool} : itN g (mHI r k) b = (b || anyN g (fun j => !decide (mOpen r k (nI j) = -1))) := by
  induction g with
  | zero => simp [itN, anyN]
  | succ g ih =>
    rw [itN_s, ih]
    unfold mHI
    rw [show anyN (g + 1) (fun j => !decide (mOpen r k (nI j) = -1)) = (anyN g (fun j => !decide (mOpen r k (nI j) = -1)) || !decide (mOpen r k (nI g) = -1)) from rfl]
    cases b <;> cases anyN g (fun j => !decide (mOpen r k (nI j) = -1)) <;> by_cases e : mOpen r k (nI g) = -1 <;> simp [e]
theorem anyN_congr {n : Nat} {P Q : Nat → Bool} (h : ∀ j, j < n → P j = Q j) : anyN n P = anyN n Q := by
  induction n with
  | zero => rfl
  | succ n ih => simp only [anyN, h n (by omega), ih (fun j hj => h j (by omega))]
theorem nI_prd {g : Nat} (h : 0 < g) : nI g - nI 1 = nI (g - 1) := by
  rw [show g = (g - 1) + 1 by omega, ← nI_add]
  simp
section S86
variable {q p : gRF} {n d k t v : Nat}
theorem s_any (h : sI q p n d k t v) {g : Nat} (hg : g ≤ 4) : cAnyOpen q.1 g = anyN g (fun j => !decide (mOpen p.1 k (nI j) = -1)) := by
  unfold cAnyOpen
  exact anyN_congr (fun j hj => by rw [rAt_in (show j < 4 by omega) (by decide), h.opn j (by omega)])
theorem s_since (h : sI q p n d k t v) {g : Nat} (hg : g < 4) : cSince q.1 (cSubj (nI g)) = mSince p.1 n (nI g) := by
  obtain ⟨-, hn2, -⟩ := id h.ok
  unfold cSince mSince cSubj
  rw [nI_add, rAt_in (show 8 + g < 12 by omega) (by decide), s_lri h hg]
  by_cases e : mLatest p.1 n (nI 1) (nI g) (-1) = -1
  · rw [if_pos e, if_pos e]
  · rw [if_neg e, if_neg e]
    obtain ⟨j, h1, h2, -⟩ := lastN_ex e
    rw [show mLatest p.1 n (nI 1) (nI g) (-1) = nI j from h2, rAt_in (by omega) (by decide), nI_clamp (by omega)]
    exact (h.chg j h1).2.1
theorem s_held (h : sI q p n d k t v) {g : Nat} (hg : g < 4) (y : Int32) : cHeld q.1 q.2 (nI g) y g = mHeld p.1 p.2 n k g y := by
  obtain ⟨-, -, -, -, -, -, ht, ht2, -⟩ := id h.ok
  unfold cHeld mHeld
  rw [mHI_any]
  unfold mH0
  by_cases e0 : g = 0
  · subst e0
    rw [if_pos (show nI 0 = 0 from rfl), if_pos (show nI 0 ≤ 0 by decide)]
    rfl
  · have e2 : ¬ nI g ≤ 0 := fun z => e0 (by rw [← nI_0] at z; have := (nI_leI (a := g) (b := 0) (by omega) (by decide)).mp z; omega)
    rw [if_neg (nI_ne0 (by omega) (by omega)), if_neg e2, nI_prd (by omega)]
    unfold cProven
    rw [nI_prd (by omega), s_since h (by omega), show cValueNow q.1 (cSubj (nI (g - 1))) = mVal p.1 n (nI 1) (nI (g - 1)) (-1) from s_runs h (by omega), s_any h (by omega), h.f1, ht]
    by_cases e1 : mVal p.1 n (nI 1) (nI (g - 1)) (-1) = y
    · rw [if_pos e1, if_pos e1]
      by_cases e2 : nI t - mSince p.1 n (nI (g - 1)) < nI 2
      · have e3 : ¬ nI 2 ≤ nI t - mSince p.1 n (nI (g - 1)) := fun z => by rw [Int32.lt_iff_toInt_lt] at e2; rw [Int32.le_iff_toInt_le] at z; omega
        simp only [if_pos e2, if_neg e3, Bool.false_eq_true, if_false, Bool.true_or]
      · have e3 : nI 2 ≤ nI t - mSince p.1 n (nI (g - 1)) := by rw [Int32.lt_iff_toInt_lt] at e2; rw [Int32.le_iff_toInt_le]; omega
        simp only [if_neg e2, if_pos e3, if_true, Bool.false_or]
    · rw [if_neg e1, if_neg e1]
      simp
theorem s_nx (h : sI q p n d k t v) {g : Nat} (hg : g < 4) : cNx q.1 q.2 (nI g) = mNx p.1 p.2 n (nI g) := by
  unfold cNx mNx
  by_cases e0 : g = 0
  · subst e0
    rw [if_pos (show nI 0 = 0 from rfl), if_pos (show nI 0 = 0 from rfl), h.f0, h.v2]
  · rw [if_neg (nI_ne0 (by omega) (by omega)), if_neg (nI_ne0 (by omega) (by omega)), nI_prd (by omega), s_runs h (by omega)]
theorem s_rollable (h : sI q p n d k t v) {g : Nat} (hg : g < 4) : cRollable q.1 q.2 (nI g) = mRoll p.1 p.2 n k (nI g) := by
  show (if cRuns q.1 (nI g) = cNx q.1 q.2 (nI g) then -1 else if cHeld q.1 q.2 (nI g) (cNx q.1 q.2 (nI g)) (cN (nI g)) then -1 else cNx q.1 q.2 (nI g)) = _
  unfold mRoll
  rw [show cN (nI g) = g from nI_clamp (by omega), s_nx h hg, s_held h hg, s_runs h hg]
theorem s_change (h : sI q p n d k t v) {c : Nat} (hc : c < n) : cChange q.1 (nI c) = nI 10000 * p.1 4 c + nI 1000 * p.1 5 c + nI 100 * p.1 6 c + p.1 7 c := by
  obtain ⟨-, hn2, -⟩ := id h.ok
  obtain ⟨c1, c2, c3⟩ := h.chg c hc
  obtain ⟨s, hs, e, e5, e6⟩ := s_subj h hc
  have hsw : cIsSwitch (nI s) = decide (s < 8) := by
    have : ∀ s, s < 12 → cIsSwitch (nI s) = decide (s < 8) := by decide +kernel
    exact this s hs
  unfold cChange
  rw [rAt_in (show c < 200 by omega) (by decide), rAt_in (show c < 200 by omega) (by decide), rAt_in (show c < 200 by omega) (by decide), e, hsw, e5, e6, c1, c3]
  by_cases e8 : s < 8
  · rw [if_pos (decide_eq_true e8), show soS s = nI 0 from if_pos e8, show taS s = nI s from if_pos e8, show nI 1000 * nI 0 = 0 from by decide, Int32.add_zero]
    rw [Int32.add_assoc, Int32.add_assoc, Int32.add_comm (p.1 7 c)]
  · rw [if_neg (by simp [e8]), show soS s = nI 1 from if_neg e8, show taS s = nI (s - 8) from if_neg e8, show nI 1000 * nI 1 = nI 1000 from by decide]
    rw [show nI s - nI 8 = nI (s - 8) from by rw [show s = (s - 8) + 8 by omega, ← nI_add]; simp]
    generalize nI 10000 * p.1 4 c = A
    generalize nI 100 * nI (s - 8) = B
    generalize p.1 7 c = C
    generalize nI 1000 = D
    rw [Int32.add_assoc A C D, Int32.add_comm C D, ← Int32.add_assoc A D C, Int32.add_assoc (A + D) C B, Int32.add_comm C B, ← Int32.add_assoc (A + D) B C]
theorem s_nearG {rc rm : Nat → Nat → Int32} {w x : Nat} (hw : w ≤ 42) (hx : x < 6) (h1 : ∀ j, j < w → rc 17 j = rm 9 j) (h2 : rc 18 x = rm 10 x) : cNear rc (nI x) w = mNear rm x w := by
  have e : lastN w (fun j => decide (rAt 42 (rc 17) (nI j) = nI x)) = lastN w (mNP rm x) := lastN_congr (fun j hj => by
    rw [rAt_in (show j < 42 by omega) (by decide), h1 j hj]
    unfold mNP
    by_cases e : rm 9 j = nI x
    · rw [if_pos e]; exact decide_eq_true e
    · rw [if_neg e]; exact decide_eq_false e)
  unfold cNear mNear mN1
  rw [e, rAt_in hx (by decide), h2]
  by_cases e9 : lastN w (mNP rm x) = -1
  · rw [if_pos e9, if_pos e9]
  · rw [if_neg e9, if_neg e9]
theorem s_near (h : sI q p n d k t v) {x : Nat} (hx : x < 6) : cNear q.1 (nI x) (t / 14 + 2) = mNear p.1 x (t / 14 + 2) := by
  obtain ⟨-, -, -, -, -, -, ht, ht2, -⟩ := id h.ok
  exact s_nearG (by omega) hx (fun j hj => h.hold j (by omega)) (h.blot x hx).1
theorem s_duty (h : sI q p n d k t v) : cDuty q.1 (nI t) = mCalled p.1 p.2 t (p.1 9 (t / 14)).toNatClampNeg := by
  obtain ⟨-, -, -, -, -, -, ht, ht2, hh, -⟩ := id h.ok
  obtain ⟨x, hx, ex⟩ := hh (t / 14) (by omega)
  unfold cDuty mCalled
  rw [pk_div (by omega) (by decide) (by decide), rAt_in (show t / 14 < 42 by omega) (by decide), h.hold (t / 14) (by omega), ex, nI_clamp (by omega), s_rest h hx]
  cases mRest p.1 p.2 x with
  | false => rfl
  | true =>
    rw [if_pos rfl, if_pos rfl]
    have key : ∀ m, m ≤ 6 → (itN m (cDT q.1 (nI t)) (-1, -1)).1 = itN m (mCI p.1 p.2) (-1) ∧ ((itN m (mCI p.1 p.2) (-1) = -1 ∧ (itN m (cDT q.1 (nI t)) (-1, -1)).2 = -1) ∨ ∃ a, a < 6 ∧ itN m (mCI p.1 p.2) (-1) = nI a ∧ (itN m (cDT q.1 (nI t)) (-1, -1)).2 = p.1 10 a) := by
      intro m
      induction m with
      | zero => intro _; exact ⟨rfl, Or.inl ⟨rfl, rfl⟩⟩
      | succ m ih =>
        intro hm
        obtain ⟨i1, i2⟩ := ih (by omega)
        rw [itN_s, itN_s]
        generalize itN m (cDT q.1 (nI t)) (-1, -1) = u at i1 i2 ⊢
        generalize itN m (mCI p.1 p.2) (-1) = w at i1 i2 ⊢
        obtain ⟨u1, u2⟩ := u
        simp only at i1 i2
        subst i1
        unfold cDT mCI
        rw [s_rest h (show m < 6 by omega), rAt_in (show m < 6 by omega) (by decide), (h.blot m (by omega)).1]
        cases mRest p.1 p.2 m with
        | true =>
          rw [if_pos (show true = true from rfl), if_pos (show true = true from rfl)]
          exact ⟨rfl, i2⟩
        | false =>
          rw [if_neg (show ¬ (false = true) by decide), if_neg (show ¬ (false = true) by decide)]
          obtain ⟨-, y, hy, ey⟩ := h.blot m (by omega)
          obtain ⟨-, -, -, -, -, hk2, -⟩ := id h.ok
          rcases i2 with ⟨a, b⟩ | ⟨a, ha, b, c⟩
          · have h9 : ¬ p.1 10 m ≤ u2 := by
              rw [b, ey, Int32.le_iff_toInt_le, nI_toInt (by omega), m1_toInt]
              omega
            rw [if_neg h9, if_pos a]
            exact ⟨rfl, Or.inr ⟨m, by omega, rfl, rfl⟩⟩
          · have h9 : ¬ u1 = -1 := by rw [b]; exact nI_ne_m1 (by omega)
            have h8 : u1.toNatClampNeg = a := by rw [b, nI_clamp (by omega)]
            rw [if_neg h9, h8]
            show (if p.1 10 m ≤ u2 then (u1, u2) else (nI m, p.1 10 m)).1 = _ ∧ _
            rw [c]
            by_cases e : p.1 10 m ≤ p.1 10 a
            · rw [if_pos e, if_pos e]
              exact ⟨rfl, Or.inr ⟨a, ha, b, rfl⟩⟩
            · rw [if_neg e, if_neg e]
              exact ⟨rfl, Or.inr ⟨m, by omega, rfl, rfl⟩⟩
    exact (key 6 (Nat.le_refl _)).1
end S86
