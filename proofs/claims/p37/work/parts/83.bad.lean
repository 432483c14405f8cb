theorem bB_tb {b c : Nat} (hb : b < 256) (hc : c < 8) : bB (nI b) c = b.testBit c := by
  have g : ∀ b, b < 256 → ∀ c, c < 8 → bB (nI b) c = b.testBit c := by decide +kernel
  exact g b hb c hc
theorem and0 {a S : Int32} : a &&& S = 0 ↔ ∀ y, bB a y = true → bB S y = false := by
  constructor
  · intro h y hy
    have h1 : bB (a &&& S) y = false := by rw [h]; exact bB_0 y
    rw [bB_and, hy] at h1
    exact h1
  · intro h
    apply bB_ext
    intro y _
    rw [bB_and, bB_0]
    cases e : bB a y with
    | false => rfl
    | true => rw [h y e]; rfl
theorem mBI_e (r : Nat → Nat → Int32) (w on : Int32) (i : Nat) (b : Bool) : mBI r w on i b = if b = true then true else if r 1 i = w then mSh r on i else false := rfl
theorem mBI_iff {r : Nat → Nat → Int32} {w on : Int32} {d : Nat} : itN d (mBI r w on) false = true ↔ ∃ i, i < d ∧ r 1 i = w ∧ mSh r on i = true := by
  induction d with
  | zero =>
    constructor
    · intro h; cases h
    · rintro ⟨i, h, -⟩; omega
  | succ d ih =>
    rw [itN_s, mBI_e]
    constructor
    · intro h
      by_cases h1 : itN d (mBI r w on) false = true
      · obtain ⟨i, a, b, c⟩ := ih.mp h1
        exact ⟨i, by omega, b, c⟩
      · rw [if_neg h1] at h
        by_cases h2 : r 1 d = w
        · rw [if_pos h2] at h; exact ⟨d, by omega, h2, h⟩
        · rw [if_neg h2] at h; cases h
    · rintro ⟨i, a, b, c⟩
      by_cases h1 : itN d (mBI r w on) false = true
      · rw [if_pos h1]
      · rw [if_neg h1]
        by_cases e2 : i = d
        · subst e2; rw [if_pos b]; exact c
        · exact absurd (ih.mpr ⟨i, by omega, b, c⟩) h1
theorem mSh_1 {r : Nat → Nat → Int32} {on : Int32} {i : Nat} (h : r 2 i = -1) : mSh r on i = true := by unfold mSh; rw [if_pos h]
theorem mSh_c {r : Nat → Nat → Int32} {on : Int32} {i c : Nat} (hc : c < 8) (h : r 2 i = nI c) : mSh r on i = true ↔ b2i (bB on c) = r 3 i := by
  unfold mSh
  rw [if_neg (by rw [h]; exact nI_ne_m1 (by omega)), h, bB_has on (by omega)]
  by_cases e : b2i (bB on c) = r 3 i
  · rw [if_pos e]; exact ⟨fun _ => e, fun _ => rfl⟩
  · rw [if_neg e]; exact ⟨fun z => (by cases z), fun z => absurd z e⟩
theorem cShows_iff {r : Nat → Nat → Int32} {u : Nat} {on : Int32} (hu : u < 20) : cShows r (nI u) on = true ↔ r 2 u = nI 1 ∨ (∃ y, bB (r 3 u) y = true ∧ bB on y = true) ∨ (∃ y, bB (r 4 u) y = true ∧ bB on y = false) := by
  unfold cShows
  rw [rAt_in hu (by decide), rAt_in hu (by decide), rAt_in hu (by decide)]
  by_cases h1 : r 2 u = nI 1
  · rw [if_pos h1]
    exact ⟨fun _ => Or.inl h1, fun _ => rfl⟩
  · rw [if_neg h1]
    by_cases h2 : (r 3 u) &&& on = 0
    · rw [if_pos h2]
      have k2 := and0.mp h2
      by_cases h3 : (r 4 u) &&& (on ^^^ (-1)) = 0
      · rw [if_pos h3]
        have k3 := sub0.mp h3
        constructor
        · intro h; cases h
        · rintro (a | ⟨y, a, b⟩ | ⟨y, a, b⟩)
          · exact absurd a h1
          · rw [k2 y a] at b; cases b
          · rw [k3 y a] at b; cases b
      · rw [if_neg h3]
        refine ⟨fun _ => Or.inr (Or.inr ?_), fun _ => rfl⟩
        apply Classical.byContradiction
        intro hn
        apply h3
        apply sub0.mpr
        intro y hy
        cases e : bB on y with
        | true => rfl
        | false => exact absurd ⟨y, hy, e⟩ hn
    · rw [if_neg h2]
      refine ⟨fun _ => Or.inr (Or.inl ?_), fun _ => rfl⟩
      apply Classical.byContradiction
      intro hn
      apply h2
      apply and0.mpr
      intro y hy
      cases e : bB on y with
      | false => rfl
      | true => exact absurd ⟨y, hy, e⟩ hn
theorem mIs_t {r : Nat → Nat → Int32} {so ta wo : Int32} {c : Nat} (h : mIs r so ta wo c = true) : r 5 c = so ∧ r 6 c = ta ∧ ¬ nI c = wo := by
  unfold mIs at h
  by_cases h1 : nI c = wo
  · rw [if_pos h1] at h; cases h
  · rw [if_neg h1] at h
    by_cases h2 : r 5 c = so
    · rw [if_pos h2] at h
      by_cases h3 : r 6 c = ta
      · exact ⟨h2, h3, h1⟩
      · rw [if_neg h3] at h; cases h
    · rw [if_neg h2] at h; cases h
theorem mVal_ex {r : Nat → Nat → Int32} {n : Nat} {so ta wo : Int32} (hn : n ≤ 200) : mVal r n so ta wo = nI 0 ∨ ∃ j, j < n ∧ mIs r so ta wo j = true ∧ mVal r n so ta wo = r 7 j := by
  unfold mVal
  by_cases e : mLatest r n so ta wo = -1
  · rw [if_pos e]; exact Or.inl rfl
  · rw [if_neg e]
    obtain ⟨j, h1, h2, h3⟩ := lastN_ex e
    refine Or.inr ⟨j, h1, h3, ?_⟩
    rw [show mLatest r n so ta wo = nI j from h2, nI_clamp (by omega)]
section S83
variable {q p : gRF} {n d k t v : Nat}
theorem s_shows (h : sI q p n d k t v) {u : Nat} (hu : u < 20) (on : Int32) : cShows q.1 (nI u) on = itN d (mBI p.1 (nI u) on) false := by
  apply Bool.eq_iff_iff.mpr
  rw [cShows_iff hu, mBI_iff]
  obtain ⟨-, ha⟩ := h.always u hu
  obtain ⟨b1, hb1, e1, k1⟩ := h.onb u hu
  obtain ⟨b2, hb2, e2, k2⟩ := h.offb u hu
  constructor
  · rintro (a | ⟨y, a, b⟩ | ⟨y, a, b⟩)
    · obtain ⟨i, i1, i2, i3⟩ := ha.mp a
      exact ⟨i, i1, i2, mSh_1 i3⟩
    · rw [e1] at a
      have hy : y < 8 := Lo_of rfl hb1 y a
      rw [bB_tb hb1 hy] at a
      obtain ⟨i, i1, i2, i3, i4⟩ := (k1 y hy).mp a
      exact ⟨i, i1, i2, (mSh_c hy i3).mpr (by rw [b, i4]; rfl)⟩
    · rw [e2] at a
      have hy : y < 8 := Lo_of rfl hb2 y a
      rw [bB_tb hb2 hy] at a
      obtain ⟨i, i1, i2, i3, i4⟩ := (k2 y hy).mp a
      exact ⟨i, i1, i2, (mSh_c hy i3).mpr (by rw [b, i4]; rfl)⟩
  · rintro ⟨i, i1, i2, i3⟩
    obtain ⟨-, h4, h5⟩ := h.defs i i1
    rcases h4 with h4 | ⟨c, hc, h4⟩
    · exact Or.inl (ha.mpr ⟨i, i1, i2, h4⟩)
    · have h6 := (mSh_c hc h4).mp i3
      rcases h5 with h5 | h5
      · refine Or.inr (Or.inr ⟨c, ?_, ?_⟩)
        · rw [e2, bB_tb hb2 hc]; exact (k2 c hc).mpr ⟨i, i1, i2, h4, h5⟩
        · exact b2i_f (h6.trans h5)
      · refine Or.inr (Or.inl ⟨c, ?_, ?_⟩)
        · rw [e1, bB_tb hb1 hc]; exact (k1 c hc).mpr ⟨i, i1, i2, h4, h5⟩
        · exact b2i_t (fun z => by rw [h6, h5] at z; exact absurd z (by decide))
theorem s_valR (h : sI q p n d k t v) (ta wo : Int32) : ∃ y, y < v ∧ mVal p.1 n (nI 1) ta wo = nI y := by
  obtain ⟨-, hn2, -⟩ := id h.ok
  rcases mVal_ex (r := p.1) (so := nI 1) (ta := ta) (wo := wo) hn2 with e | ⟨j, h1, h2, e⟩
  · exact ⟨0, by have := h.v20.1; omega, e⟩
  · rcases h.vals j h1 with ⟨a, -⟩ | ⟨-, y, hy, e2⟩
    · rw [(mIs_t h2).1] at a; exact absurd a (by decide)
    · exact ⟨y, hy, e.trans e2⟩
theorem Lo_set (r : Nat → Nat → Int32) (x : Int32) : Lo (cSet r x) := by
  intro y hy
  by_cases h32 : y < 32
  · have h1 : bB (cSet r x) y = (decide (y < 8) && !decide (cValueNow r (nI y) ≤ x)) := bB_itW (P := fun c => !decide (cValueNow r (nI c) ≤ x)) (Nat.le_refl _) h32
    rw [h1] at hy
    exact of_decide_eq_true (Bool.and_eq_true_iff.mp hy).1
  · rw [bB_ge (by omega)] at hy; cases hy
theorem s_onx (h : sI q p n d k t v) (x : Int32) : cOn q.1 (cSet q.1 x) = mOns p.1 n x (-1) := by
  rw [s_on h (Lo_set q.1 x), s_set h x]
  rfl
theorem s_bad (h : sI q p n d k t v) {g : Nat} (hg : g < 4) : cFault q.1 (nI g) = mBad p.1 n d (nI g) (-1) := by
  obtain ⟨u, hu, e⟩ := s_valR h (nI g) (-1)
  have := h.v20.2
  unfold cFault mBad
  rw [s_runs h hg, s_onx h, e]
  exact s_shows h (by omega) _
end S83
