section S85
variable {q p : gRF} {n d k t v : Nat}
theorem s_heals (h : sI q p n d k t v) {c g : Nat} (hc : c < n) (hg : g < 4) : cHeals q.1 (nI c) (nI g) = if mBad p.1 n d (nI g) (-1) = true then (if mBad p.1 n d (nI g) (nI c) = true then false else true) else false := by
  unfold cHeals
  rw [s_bad h hg, s_fw h hc hg]
theorem s_try (h : sI q p n d k t v) {g : Nat} (hg : g < 4) : cTry q.1 n (nI g) = mTrace p.1 n d (nI g) := by
  unfold cTry mTrace
  rw [s_bad h hg]
  have e : lastN n (fun j => !cFW q.1 (nI j) (nI g)) = lastN n (mTP p.1 n d (nI g)) := lastN_congr (fun j hj => by
    rw [s_fw h hj hg]
    unfold mTP
    cases mBad p.1 n d (nI g) (nI j) <;> rfl)
  rw [e]
/-- a change that heals is the latest of its subject, and of a switch or of the ring -/
theorem s_heal_rel (h : sI q p n d k t v) {c g : Nat} (hc : c < n) (hg : g < 4) (hb : mBad p.1 n d (nI g) (-1) = true) (hw : mBad p.1 n d (nI g) (nI c) = false) : ∃ s, s < 12 ∧ (s < 8 ∨ s = 8 + g) ∧ q.1 10 s = nI c := by
  obtain ⟨-, hn2, -⟩ := id h.ok
  obtain ⟨s, hs, e, -, -⟩ := s_subj h hc
  have key : ¬ (∀ s2, s2 < 12 → (s2 < 8 ∨ s2 = 8 + g) → mVal p.1 n (soS s2) (taS s2) (nI c) = mVal p.1 n (soS s2) (taS s2) (-1)) := by
    intro ha
    have h1 : mVal p.1 n (nI 1) (nI g) (nI c) = mVal p.1 n (nI 1) (nI g) (-1) := by
      have := ha (8 + g) (by omega) (Or.inr rfl)
      rw [show soS (8 + g) = nI 1 from if_neg (by omega), show taS (8 + g) = nI g from (if_neg (by omega)).trans (by rw [show 8 + g - 8 = g by omega])] at this
      exact this
    have h2 : itN 8 (mO1 p.1 n (nI g) (nI c)) (nI 0) = itN 8 (mO1 p.1 n (nI g) (-1)) (nI 0) := by
      apply bB_ext
      intro y hy
      rw [bB_mO1 hy, bB_mO1 hy]
      by_cases y8 : y < 8
      · have := ha y (by omega) (Or.inl y8)
        rw [show soS y = nI 0 from if_pos y8, show taS y = nI y from if_pos y8] at this
        rw [this]
      · simp [y8]
    have h3 : mBad p.1 n d (nI g) (nI c) = mBad p.1 n d (nI g) (-1) := by
      unfold mBad mOns
      rw [h1, h2]
    rw [h3, hb] at hw
    cases hw
  have hrel : s < 8 ∨ s = 8 + g := by
    apply Classical.byContradiction
    intro hn
    exact key (fun s2 hs2 hr => s_val_oth h hc hs hs2 e (fun z => hn (by rw [← z]; exact hr)))
  refine ⟨s, hs, hrel, ?_⟩
  apply Classical.byContradiction
  intro hn
  apply key
  intro s2 hs2 _
  by_cases e2 : s2 = s
  · subst e2
    have h5 : cOther q.1 (nI c) = q.1 10 s2 := by
      unfold cOther
      rw [rAt_in (show c < 200 by omega) (by decide), rAt_in (show c < 200 by omega) (by decide), e, rAt_in hs (by decide), if_neg hn]
    have h6 : mLatest p.1 n (soS s2) (taS s2) (nI c) = mLatest p.1 n (soS s2) (taS s2) (-1) := (s_lat_wo h hc hs e).symm.trans (h5.trans (s_lat h hs))
    unfold mVal
    rw [h6]
  · exact s_val_oth h hc hs hs2 e e2
def trI (T : Nat → Bool) (n : Nat) (m : Nat) (L : Nat → Int32) (g : Nat) (w : Int32) : Prop :=
  (w = -1 ∨ ∃ j, j < n ∧ w = nI j ∧ T j = true) ∧ ∀ s, s < m → (s < 8 ∨ s = 8 + g) → ∀ j, j < n → L s = nI j → T j = true → (j : Int) ≤ w.toInt
theorem m1_toInt : (-1 : Int32).toInt = -1 := by decide
theorem s_trace (h : sI q p n d k t v) {g : Nat} (hg : g < 4) : cLatest q.1 (nI g) = mTrace p.1 n d (nI g) := by
  obtain ⟨-, hn2, -⟩ := id h.ok
  unfold cLatest mTrace
  rw [s_bad h hg]
  cases hb : mBad p.1 n d (nI g) (-1) with
  | false => rfl
  | true =>
    rw [if_pos rfl, if_pos rfl]
    have inv : ∀ m, m ≤ 12 → trI (mTP p.1 n d (nI g)) n m (q.1 10) g (itN m (cLI q.1 (nI g)) (-1)) := by
      intro m
      induction m with
      | zero => intro _; exact ⟨Or.inl rfl, fun s hs => by omega⟩
      | succ m ih =>
        intro hm
        obtain ⟨i1, i2⟩ := ih (by omega)
        rw [itN_s]
        generalize itN m (cLI q.1 (nI g)) (-1) = w at i1 i2 ⊢
        have hw1 : -1 ≤ w.toInt := by
          rcases i1 with e | ⟨j, hj, e, -⟩
          · rw [e, m1_toInt]; omega
          · rw [e, nI_toInt (by omega)]; omega
        have hsw : (cIsSwitch (nI m) || decide (nI m = cSubj (nI g))) = decide (m < 8 ∨ m = 8 + g) := by
          have : ∀ m, m < 12 → ∀ g, g < 4 → (cIsSwitch (nI m) || decide (nI m = cSubj (nI g))) = decide (m < 8 ∨ m = 8 + g) := by decide +kernel
          exact this m (by omega) g hg
        have hskip : cLI q.1 (nI g) m w = w → (∀ j, j < n → (m < 8 ∨ m = 8 + g) → q.1 10 m = nI j → mTP p.1 n d (nI g) j = true → (j : Int) ≤ w.toInt) → trI (mTP p.1 n d (nI g)) n (m + 1) (q.1 10) g (cLI q.1 (nI g) m w) := by
          intro e h9
          rw [e]
          refine ⟨i1, fun s hs hr j hj hL hT => ?_⟩
          by_cases e2 : s = m
          · subst e2; exact h9 j hj hr hL hT
          · exact i2 s (by omega) hr j hj hL hT
        by_cases hr : m < 8 ∨ m = 8 + g
        · have e1 : cLI q.1 (nI g) m w = if q.1 10 m ≤ w then w else if cFW q.1 (q.1 10 m) (nI g) = true then w else q.1 10 m := by
            unfold cLI
            rw [hsw, if_pos (decide_eq_true hr), rAt_in (show m < 12 by omega) (by decide)]
          by_cases e2 : q.1 10 m ≤ w
          · rw [if_pos e2] at e1
            refine hskip e1 (fun j hj _ hL _ => ?_)
            rw [hL, Int32.le_iff_toInt_le, nI_toInt (by omega)] at e2
            exact e2
          · rw [if_neg e2] at e1
            have h10 : ∃ j, j < n ∧ q.1 10 m = nI j := by
              rw [h.last m (by omega)]
              by_cases e5 : lastN n (fun j => decide (q.1 7 j = nI m)) = -1
              · exfalso
                apply e2
                rw [h.last m (by omega), e5, Int32.le_iff_toInt_le, m1_toInt]
                exact hw1
              · obtain ⟨j, a, b, -⟩ := lastN_ex e5
                exact ⟨j, a, b⟩
            obtain ⟨j0, hj0, hL0⟩ := h10
            rw [hL0, s_fw h hj0 hg] at e1
            have hlt : w.toInt < (j0 : Int) := by
              rw [hL0, Int32.le_iff_toInt_le, nI_toInt (by omega)] at e2
              omega
            have hT0 : mTP p.1 n d (nI g) j0 = if mBad p.1 n d (nI g) (nI j0) = true then false else true := rfl
            cases e6 : mBad p.1 n d (nI g) (nI j0) with
            | true =>
              rw [e6, if_pos rfl] at e1
              refine hskip e1 (fun j hj _ hL hT => ?_)
              rw [hL0] at hL
              have := (nI_iff (by omega) (by omega)).mp hL
              subst this
              rw [hT0, e6] at hT
              cases hT
            | false =>
              rw [e6, if_neg (by decide)] at e1
              rw [e1]
              refine ⟨Or.inr ⟨j0, hj0, rfl, by rw [hT0, e6]; rfl⟩, fun s hs hr2 j hj hL hT => ?_⟩
              rw [nI_toInt (by omega)]
              by_cases e7 : s = m
              · subst e7
                rw [hL0] at hL
                have := (nI_iff (by omega) (by omega)).mp hL
                omega
              · have := i2 s (by omega) hr2 j hj hL hT
                omega
        · refine hskip ?_ (fun j _ hr2 => absurd hr2 hr)
          unfold cLI
          rw [hsw, if_neg (by simp [hr])]
    obtain ⟨i1, i2⟩ := inv 12 (Nat.le_refl _)
    generalize itN 12 (cLI q.1 (nI g)) (-1) = w at i1 i2 ⊢
    have hall : ∀ j, j < n → mTP p.1 n d (nI g) j = true → (j : Int) ≤ w.toInt := by
      intro j hj hT
      have hw : mBad p.1 n d (nI g) (nI j) = false := by
        cases e : mBad p.1 n d (nI g) (nI j) with
        | false => rfl
        | true => unfold mTP at hT; rw [e] at hT; cases hT
      obtain ⟨s, hs, hr, hL⟩ := s_heal_rel h hj hg hb hw
      exact i2 s hs hr j hj hL hT
    rcases i1 with e | ⟨j, hj, e, hT⟩
    · rw [e]
      refine (lastN_none (fun j hj => ?_)).symm
      cases e2 : mTP p.1 n d (nI g) j with
      | false => rfl
      | true =>
        have := hall j hj e2
        rw [e, m1_toInt] at this
        omega
    · rw [e]
      refine (lastN_eq hj hT (fun j2 h1 h2 => ?_)).symm
      cases e2 : mTP p.1 n d (nI g) j2 with
      | false => rfl
      | true =>
        have := hall j2 h2 e2
        rw [e, nI_toInt (by omega)] at this
        omega
end S85
