theorem mIs_wo {r : Nat → Nat → Int32} {so ta : Int32} {c j : Nat} (hc : c < 200) (hj : j < 200) : mIs r so ta (nI c) j = (if j = c then false else mIs r so ta (-1) j) := by
  unfold mIs
  by_cases e : j = c
  · subst e; rw [if_pos rfl, if_pos rfl]
  · rw [if_neg e, if_neg (fun z => e ((nI_iff (by omega) (by omega)).mp z)), if_neg (nI_ne_m1 (by omega))]
theorem lastN_wo {P : Nat → Bool} {n c : Nat} (hc : c < n) (hn : n ≤ 200) (hP : P c = true) : lastN n (fun j => if j = c then false else P j) = if lastN n P = nI c then lastN c P else lastN n P := by
  induction n with
  | zero => omega
  | succ m ih =>
    by_cases e : c = m
    · subst e
      have h1 : lastN (c + 1) P = nI c := by simp [lastN, hP]
      rw [if_pos h1]
      have h2 : lastN (c + 1) (fun j => if j = c then false else P j) = lastN c (fun j => if j = c then false else P j) := by simp [lastN]
      rw [h2]
      exact lastN_congr (fun j hj => if_neg (by omega))
    · have hm : ¬ m = c := fun z => e z.symm
      by_cases hp : P m = true
      · have h1 : lastN (m + 1) P = nI m := by simp [lastN, hp]
        have h2 : lastN (m + 1) (fun j => if j = c then false else P j) = nI m := by simp [lastN, hp, hm]
        rw [h1, h2, if_neg (fun z => hm ((nI_iff (by omega) (by omega)).mp z))]
      · have h1 : lastN (m + 1) P = lastN m P := by simp [lastN, hp]
        have h2 : lastN (m + 1) (fun j => if j = c then false else P j) = lastN m (fun j => if j = c then false else P j) := by simp [lastN, hp]
        rw [h1, h2]
        exact ih (by omega) (by omega)
theorem bB_mO1 {r : Nat → Nat → Int32} {n : Nat} {x wo : Int32} {y : Nat} (hy : y < 32) : bB (itN 8 (mO1 r n x wo) (nI 0)) y = (decide (y < 8) && !decide (mVal r n (nI 0) (nI y) wo ≤ x)) := by
  have h2 : itN 8 (mO1 r n x wo) (nI 0) = itN 8 (fun c b => b ||| (if (fun c => decide (mVal r n (nI 0) (nI c) wo ≤ x)) c then nI 0 else nI 1 <<< (nI c &&& 31))) (nI 0) := itN_congr (fun c b _ => by simp [mO1, mOb]) _
  rw [h2, bB_itO (P := fun c => decide (mVal r n (nI 0) (nI c) wo ≤ x)) (Nat.le_refl _) hy]
def soS (s : Nat) : Int32 := if s < 8 then nI 0 else nI 1
def taS (s : Nat) : Int32 := if s < 8 then nI s else nI (s - 8)
section S84
variable {q p : gRF} {n d k t v : Nat}
/-- the subject of a change, as the class and as the reference say it -/
theorem s_is (h : sI q p n d k t v) {s j : Nat} (hs : s < 12) (hj : j < n) : decide (q.1 7 j = nI s) = mIs p.1 (soS s) (taS s) (-1) j := by
  by_cases e : s < 8
  · rw [show soS s = nI 0 from if_pos e, show taS s = nI s from if_pos e]
    exact s_isw h e hj
  · have h1 := s_isr h (g := s - 8) (by omega) hj
    rw [show 8 + (s - 8) = s by omega] at h1
    rw [show soS s = nI 1 from if_neg e, show taS s = nI (s - 8) from if_neg e]
    exact h1
theorem s_lat (h : sI q p n d k t v) {s : Nat} (hs : s < 12) : q.1 10 s = mLatest p.1 n (soS s) (taS s) (-1) := (h.last s hs).trans (lastN_congr fun _ hj => s_is h hs hj)
theorem s_lat_wo (h : sI q p n d k t v) {c s : Nat} (hc : c < n) (hs : s < 12) (e : q.1 7 c = nI s) : cOther q.1 (nI c) = mLatest p.1 n (soS s) (taS s) (nI c) := by
  obtain ⟨-, hn2, -⟩ := id h.ok
  have hP : mIs p.1 (soS s) (taS s) (-1) c = true := (s_is h hs hc).symm.trans (decide_eq_true e)
  have h1 : mLatest p.1 n (soS s) (taS s) (nI c) = lastN n (fun j => if j = c then false else mIs p.1 (soS s) (taS s) (-1) j) := lastN_congr (fun j hj => mIs_wo (by omega) (by omega))
  have h2 : lastN c (mIs p.1 (soS s) (taS s) (-1)) = q.1 9 c := by
    rw [h.prev c hc, e]
    exact lastN_congr (fun j hj => (s_is h hs (by omega)).symm)
  rw [h1, lastN_wo hc hn2 hP, h2]
  unfold cOther
  rw [rAt_in (show c < 200 by omega) (by decide), rAt_in (show c < 200 by omega) (by decide), e, rAt_in hs (by decide), s_lat h hs]
  rfl
theorem s_val_wo (h : sI q p n d k t v) {c s : Nat} (hc : c < n) (hs : s < 12) (e : q.1 7 c = nI s) : cWithout q.1 (nI c) = mVal p.1 n (soS s) (taS s) (nI c) := by
  obtain ⟨-, hn2, -⟩ := id h.ok
  unfold cWithout mVal
  rw [s_lat_wo h hc hs e]
  by_cases e9 : mLatest p.1 n (soS s) (taS s) (nI c) = -1
  · rw [if_pos e9, if_pos e9]
  · rw [if_neg e9, if_neg e9]
    obtain ⟨j, h1, h2, -⟩ := lastN_ex e9
    rw [show mLatest p.1 n (soS s) (taS s) (nI c) = nI j from h2, rAt_in (by omega) (by decide), nI_clamp (by omega)]
    exact (h.chg j h1).2.2
/-- a change of another subject changes nothing for this one -/
theorem s_lat_oth (h : sI q p n d k t v) {c s s2 : Nat} (hc : c < n) (hs : s < 12) (hs2 : s2 < 12) (e : q.1 7 c = nI s) (hne : ¬ s2 = s) : mLatest p.1 n (soS s2) (taS s2) (nI c) = mLatest p.1 n (soS s2) (taS s2) (-1) := by
  obtain ⟨-, hn2, -⟩ := id h.ok
  refine lastN_congr (fun j hj => ?_)
  rw [mIs_wo (by omega) (by omega)]
  by_cases e2 : j = c
  · subst e2
    rw [if_pos rfl, ← s_is h hs2 hc, e]
    exact (decide_eq_false (fun z => hne ((nI_iff (by omega) (by omega)).mp z.symm))).symm
  · rw [if_neg e2]
theorem s_val_oth (h : sI q p n d k t v) {c s s2 : Nat} (hc : c < n) (hs : s < 12) (hs2 : s2 < 12) (e : q.1 7 c = nI s) (hne : ¬ s2 = s) : mVal p.1 n (soS s2) (taS s2) (nI c) = mVal p.1 n (soS s2) (taS s2) (-1) := by
  unfold mVal
  rw [s_lat_oth h hc hs hs2 e hne]
theorem s_subj (h : sI q p n d k t v) {c : Nat} (hc : c < n) : ∃ s, s < 12 ∧ q.1 7 c = nI s ∧ p.1 5 c = soS s ∧ p.1 6 c = taS s := by
  obtain ⟨s, h1, h2, h3⟩ := h.sub c hc
  refine ⟨s, h1, h2, ?_⟩
  rcases h3 with ⟨a, b, c⟩ | ⟨a, b, c⟩
  · rw [show soS s = nI 0 from if_pos a, show taS s = nI s from if_pos a]
    exact ⟨b, c⟩
  · rw [show soS s = nI 1 from if_neg (by omega), show taS s = nI (s - 8) from if_neg (by omega)]
    exact ⟨b, c⟩
theorem s_fwv (h : sI q p n d k t v) {c g : Nat} (hc : c < n) (hg : g < 4) : cFWv q.1 (nI c) (nI g) = mVal p.1 n (nI 1) (nI g) (nI c) := by
  obtain ⟨-, hn2, -⟩ := id h.ok
  obtain ⟨s, hs, e, -, -⟩ := s_subj h hc
  have e1 : soS (8 + g) = nI 1 := if_neg (by omega)
  have e2 : taS (8 + g) = nI g := (if_neg (by omega)).trans (by rw [show 8 + g - 8 = g by omega])
  unfold cFWv cSubj
  rw [rAt_in (show c < 200 by omega) (by decide), e, nI_add]
  by_cases e9 : 8 + g = s
  · subst e9
    rw [if_pos rfl, s_val_wo h hc hs e, e1, e2]
  · rw [if_neg (fun z => e9 ((nI_iff (by omega) (by omega)).mp z).symm), s_runs h hg]
    have := s_val_oth h hc hs (show 8 + g < 12 by omega) e e9
    rw [e1, e2] at this
    exact this.symm
theorem s_fws (h : sI q p n d k t v) {c : Nat} (hc : c < n) (x : Int32) : cFWs q.1 (nI c) x = itN 8 (mO1 p.1 n x (nI c)) (nI 0) := by
  obtain ⟨-, hn2, -⟩ := id h.ok
  obtain ⟨s, hs, e, -, -⟩ := s_subj h hc
  have hS : ∀ y, y < 32 → bB (cSet q.1 x) y = (decide (y < 8) && !decide (mVal p.1 n (nI 0) (nI y) (-1) ≤ x)) := fun y hy => by rw [s_set h x]; exact bB_mO1 hy
  have hsw : cIsSwitch (nI s) = decide (s < 8) := by
    have : ∀ s, s < 12 → cIsSwitch (nI s) = decide (s < 8) := by decide +kernel
    exact this s hs
  have hoth : ∀ y, y < 8 → ¬ y = s → mVal p.1 n (nI 0) (nI y) (nI c) = mVal p.1 n (nI 0) (nI y) (-1) := fun y hy hne => by
    have := s_val_oth h hc hs (show y < 12 by omega) e hne
    rw [show soS y = nI 0 from if_pos hy, show taS y = nI y from if_pos hy] at this
    exact this
  apply bB_ext
  intro y hy
  rw [bB_mO1 hy]
  unfold cFWs
  rw [rAt_in (show c < 200 by omega) (by decide), e, hsw]
  by_cases e8 : s < 8
  · rw [if_pos (decide_eq_true e8), bB_with (by omega) hy, hS y hy]
    by_cases ey : y = s
    · subst ey
      have := s_val_wo h hc hs e
      rw [show soS y = nI 0 from if_pos e8, show taS y = nI y from if_pos e8] at this
      rw [if_pos rfl, this]
      simp [e8]
    · rw [if_neg ey]
      by_cases y8 : y < 8
      · rw [hoth y y8 ey]
      · simp [y8]
  · rw [if_neg (by simp [e8]), hS y hy]
    by_cases y8 : y < 8
    · rw [hoth y y8 (by omega)]
    · simp [y8]
theorem s_fw (h : sI q p n d k t v) {c g : Nat} (hc : c < n) (hg : g < 4) : cFW q.1 (nI c) (nI g) = mBad p.1 n d (nI g) (nI c) := by
  obtain ⟨u, hu, e⟩ := s_valR h (nI g) (nI c)
  have hv := h.v20.2
  have hL : Lo (cFWs q.1 (nI c) (nI g)) := by
    rw [s_fws h hc]
    intro y hy
    by_cases h32 : y < 32
    · rw [bB_mO1 h32] at hy
      exact of_decide_eq_true (Bool.and_eq_true_iff.mp hy).1
    · rw [bB_ge (by omega)] at hy; cases hy
  unfold cFW
  rw [s_fwv h hc hg, e, s_on h hL, s_fws h hc, s_shows h (by omega)]
  unfold mBad
  rw [e]
  rfl
end S84
