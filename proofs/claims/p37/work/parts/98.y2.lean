def cAwI (r : Nat → Nat → Int32) (t : Int32) (g i : Nat) (x : Int32) : Int32 := if cRest r (nI ((g + (5 - i)) % 6)) t then x else nI ((g + (5 - i)) % 6)
/-- the first of all who doesn't rest -/
def cAw (r : Nat → Nat → Int32) (t : Int32) (g : Nat) : Int32 := itN 6 (cAwI r t g) (-1)
theorem cAw_inv (r : Nat → Nat → Int32) (t : Int32) (g : Nat) (m : Nat) : (itN m (cAwI r t g) (-1) = -1 ∧ ∀ i, i < m → cRest r (nI ((g + (5 - i)) % 6)) t = true) ∨ ∃ a, a < 6 ∧ itN m (cAwI r t g) (-1) = nI a ∧ cRest r (nI a) t = false := by
  induction m with
  | zero => exact Or.inl ⟨rfl, fun i hi => by omega⟩
  | succ m ih =>
    rw [itN_s]
    generalize itN m (cAwI r t g) (-1) = x at ih ⊢
    unfold cAwI
    cases e : cRest r (nI ((g + (5 - m)) % 6)) t with
    | false =>
      rw [if_neg (by decide)]
      exact Or.inr ⟨(g + (5 - m)) % 6, by omega, rfl, e⟩
    | true =>
      rw [if_pos rfl]
      rcases ih with ⟨a, b⟩ | ih
      · refine Or.inl ⟨a, fun i hi => ?_⟩
        by_cases ei : i = m
        · rw [ei]; exact e
        · exact b i (by omega)
      · exact Or.inr ih
theorem f_awake (r : Nat → Nat → Int32) (t : Int32) {g : Nat} (hg : g < 6) : (cAw r t g = -1 ∧ ∀ j, j < 6 → cRest r (nI j) t = true) ∨ ∃ a, a < 6 ∧ cAw r t g = nI a ∧ cRest r (nI a) t = false := by
  rcases cAw_inv r t g 6 with ⟨a, b⟩ | h
  · refine Or.inl ⟨a, fun j hj => ?_⟩
    have h1 := b ((g + 5 - j) % 6) (by omega)
    rw [show (g + (5 - (g + 5 - j) % 6)) % 6 = j by omega] at h1
    exact h1
  · exact Or.inr h
theorem m1_lt : (-1 : Int32) < 0 := by decide
theorem nI_nl (a : Nat) (h : a < 2 ^ 31) : ¬ nI a < 0 := fun z => by rw [Int32.lt_iff_toInt_lt, nI_toInt h, Int32.toInt_zero] at z; omega
section S98
variable {q p : gRF} {n d k t v : Nat}
theorem f_trace (h : sY q p n d k t v) {g : Nat} (hg : g < 4) : cTry q.1 n (nI g) = cLatest q.1 (nI g) := (s_try h.1.1 hg).trans (s_trace h.1.1 hg).symm
theorem f_heal (h : sY q p n d k t v) {g : Nat} (hg : g < 4) : cLatest q.1 (nI g) = -1 ∨ ∃ j, j < n ∧ cLatest q.1 (nI g) = nI j ∧ cFault q.1 (nI g) = true ∧ cHeals q.1 (nI j) (nI g) = true := by
  have hI := h.1.1
  rw [s_trace hI hg]
  cases hb : mBad p.1 n d (nI g) (-1) with
  | false =>
    refine Or.inl ?_
    unfold mTrace
    rw [hb]
    exact if_neg (by decide)
  | true =>
    have e : mTrace p.1 n d (nI g) = lastN n (mTP p.1 n d (nI g)) := by
      unfold mTrace
      rw [hb]
      exact if_pos rfl
    rw [e]
    by_cases e1 : lastN n (mTP p.1 n d (nI g)) = -1
    · exact Or.inl e1
    · obtain ⟨j, h1, h2, h3⟩ := lastN_ex e1
      refine Or.inr ⟨j, h1, h2, (s_bad hI hg).trans hb, ?_⟩
      rw [s_heals hI h1 hg, hb, if_pos rfl]
      have h3 : (if mBad p.1 n d (nI g) (nI j) = true then false else true) = true := h3
      exact h3
theorem f_open (h : sY q p n d k t v) {g : Nat} (hg : g < 4) : rAt 4 (q.1 16) (nI g) = -1 ∨ ∃ i, rAt 4 (q.1 16) (nI g) = nI i ∧ i < 200 ∧ kBelow (q.2 4) (nI i) = 0 ∧ (nI 10 * rAt 200 (q.1 12) (nI i) + rAt 200 (q.1 11) (nI i)) - (nI 10 * rAt 200 (q.1 12) (nI i) + rAt 200 (q.1 11) (nI i)) / nI 10 * nI 10 = nI g ∧ rAt 200 (q.1 13) (nI i) = -1 := by
  have hI := h.1.1
  obtain ⟨hn, hn2, hd, hd2, hk, hk2, -⟩ := id hI.ok
  rw [rAt_in hg (by decide), hI.opn g hg]
  by_cases e : mOpen p.1 k (nI g) = -1
  · exact Or.inl e
  · obtain ⟨i, h1, h2, h3⟩ := lastN_ex e
    obtain ⟨h4, h5⟩ := mOp_iff.mp h3
    obtain ⟨y, hy, ey⟩ := h.2.2.2.2.2.2 i h1
    obtain ⟨g1, g2, g3, -⟩ := hI.inc i h1
    refine Or.inr ⟨i, h2, by omega, ?_, ?_, ?_⟩
    · rw [hI.f4]
      exact kBelow_0 h1 (by omega)
    · rw [rAt_in (by omega) (by decide), rAt_in (by omega) (by decide), g1, g2, ey, h4, pk_mul, nI_add, pk_rem (by omega) (by decide) (by decide)]
      exact congrArg nI (by omega)
    · rw [rAt_in (by omega) (by decide), g3, h5]
theorem f_on (h : sY q p n d k t v) {s g : Nat} (hs : s < 8) (e : cHasBit (cOn q.1 (cSet q.1 (nI g))) (nI s) = true) : nI g < cValueNow q.1 (nI s) := by
  have hI := h.1.1
  rw [s_onx hI] at e
  have e : decide ((mOns p.1 n (nI g) (-1) >>> (nI s &&& 31)) &&& nI 1 = nI 1) = true := e
  rw [bB_has _ (by omega)] at e
  have e2 := rOs_le (r := p.1) (b := itN 8 (mO1 p.1 n (nI g) (-1)) (nI 0)) 8 s e
  rw [bB_mO1 (by omega)] at e2
  rw [s_level hI hs]
  have e3 : ¬ mVal p.1 n (nI 0) (nI s) (-1) ≤ nI g := by
    intro z
    rw [decide_eq_true z] at e2
    simp at e2
  rw [Int32.le_iff_toInt_le] at e3
  rw [Int32.lt_iff_toInt_lt]
  omega
theorem f_week (h : sY q p n d k t v) : q.2 1 / nI 14 = nI (t / 14) := by
  obtain ⟨hn, hn2, hd, hd2, hk, hk2, ht, ht2, -⟩ := id h.1.1.ok
  rw [h.1.1.f1, pk_div (by omega) (by decide) (by decide)]
theorem f_hold (h : sY q p n d k t v) : ∃ x x2, x < 6 ∧ x2 < 6 ∧ rAt 42 (q.1 17) (nI (t / 14)) = nI x ∧ rAt 42 (q.1 17) (nI (t / 14) + nI 1) = nI x2 ∧ ¬ nI x = nI x2 := by
  have hI := h.1.1
  obtain ⟨hn, hn2, hd, hd2, hk, hk2, ht, ht2, hh, hmk⟩ := id hI.ok
  obtain ⟨x, hx, ex⟩ := hh (t / 14) (by omega)
  obtain ⟨x2, hx2, ex2⟩ := hh (t / 14 + 1) (by omega)
  have hH := h.2.2.2.1
  refine ⟨x, x2, hx, hx2, ?_, ?_, ?_⟩
  · rw [rAt_in (by omega) (by decide), hI.hold _ (by omega), ex]
  · rw [nI_add, rAt_in (by omega) (by decide), hI.hold _ (by omega), ex2]
  · intro z
    apply hH
    rw [ex, ex2, z]
theorem f_kh (h : sY q p n d k t v) : kHolder q.2 (nI (t / 14)) = 0 ∧ kHolder q.2 (nI (t / 14) + nI 1) = 0 := by
  obtain ⟨hn, hn2, hd, hd2, hk, hk2, ht, ht2, -⟩ := id h.1.1.ok
  rw [nI_add]
  exact ⟨kHolder_0 h.1.1.f1 ht2 (by omega), kHolder_0 h.1.1.f1 ht2 (Nat.le_refl _)⟩
theorem f_blots (h : sY q p n d k t v) : ∃ B : Nat → Nat, (∀ c, c < 6 → rAt 6 (q.1 18) (nI c) = nI (B c)) ∧ (∀ c, c < 6 → B c ≤ 200) ∧ sum6 B ≤ k ∧ ∀ c, c < 6 → ¬ cNear q.1 (nI c) (t / 14 + 2) < nI 1 + nI (B c) := by
  have hI := h.1.1
  obtain ⟨hn, hn2, hd, hd2, hk, hk2, ht, ht2, hh, hmk⟩ := id hI.ok
  obtain ⟨B, h1, h2⟩ := h.2.2.2.2.1
  have hle : ∀ c, c < 6 → B c ≤ 200 := fun c hc => by
    have h3 := sum6_up (B := B) hc 0
    omega
  refine ⟨B, fun c hc => ?_, hle, h2, fun c hc => ?_⟩
  · rw [rAt_in hc (by decide), (hI.blot c hc).1, h1 c hc]
  · rw [s_near hI hc]
    unfold mNear mN1
    have hb := hle c hc
    rw [h1 c hc, nI_add]
    by_cases e9 : lastN (t / 14 + 2) (mNP p.1 c) = -1
    · rw [if_pos e9, nI_add, nI_add]
      intro z
      have := (nI_ltI (by omega) (by omega)).mp z
      omega
    · rw [if_neg e9]
      obtain ⟨j, g1, g2, -⟩ := lastN_ex e9
      rw [g2, nI_subN (by omega), nI_add, nI_add]
      intro z
      have := (nI_ltI (by omega) (by omega)).mp z
      omega
theorem f_duty (h : sY q p n d k t v) : ((cDuty q.1 (q.2 1) = -1 ∧ ∀ j, j < 6 → cRest q.1 (nI j) (q.2 1) = true) ∨ ∃ j, j < 6 ∧ cDuty q.1 (q.2 1) = nI j ∧ cRest q.1 (nI j) (q.2 1) = false) ∧ (cRest q.1 (rAt 42 (q.1 17) (nI (t / 14))) (q.2 1) = true ∨ cDuty q.1 (q.2 1) = rAt 42 (q.1 17) (nI (t / 14))) := by
  obtain ⟨x, x2, hx, hx2, ex, -, -⟩ := f_hold h
  obtain ⟨B, h1, h2, -, -⟩ := f_blots h
  unfold cDuty
  rw [f_week h, ex]
  cases e : cRest q.1 (nI x) (q.2 1) with
  | false =>
    rw [if_neg (by decide)]
    exact ⟨Or.inr ⟨x, hx, rfl, e⟩, Or.inr rfl⟩
  | true =>
    rw [if_pos rfl]
    refine ⟨?_, Or.inl rfl⟩
    have key : ∀ m, m ≤ 6 → ((itN m (cDT q.1 (q.2 1)) (-1, -1)).1 = -1 ∧ (itN m (cDT q.1 (q.2 1)) (-1, -1)).2 = -1 ∧ ∀ j, j < m → cRest q.1 (nI j) (q.2 1) = true) ∨ ∃ j, j < 6 ∧ (itN m (cDT q.1 (q.2 1)) (-1, -1)).1 = nI j ∧ cRest q.1 (nI j) (q.2 1) = false := by
      intro m
      induction m with
      | zero => intro _; exact Or.inl ⟨rfl, rfl, fun j hj => by omega⟩
      | succ m ih =>
        intro hm
        have ih := ih (by omega)
        rw [itN_s]
        generalize itN m (cDT q.1 (q.2 1)) (-1, -1) = u at ih ⊢
        unfold cDT
        cases e2 : cRest q.1 (nI m) (q.2 1) with
        | true =>
          rw [if_pos rfl]
          rcases ih with ⟨a, b, c⟩ | ih
          · refine Or.inl ⟨a, b, fun j hj => ?_⟩
            by_cases ej : j = m
            · rw [ej]; exact e2
            · exact c j (by omega)
          · exact Or.inr ih
        | false =>
          rw [if_neg (by decide)]
          rw [h1 m (by omega)]
          rcases ih with ⟨a, b, c⟩ | ih
          · have hb := h2 m (by omega)
            have h9 : ¬ nI (B m) ≤ u.2 := by
              rw [b, Int32.le_iff_toInt_le, nI_toInt (by omega), m1_toInt]
              omega
            rw [if_neg h9]
            exact Or.inr ⟨m, by omega, rfl, e2⟩
          · by_cases e3 : nI (B m) ≤ u.2
            · rw [if_pos e3]; exact Or.inr ih
            · rw [if_neg e3]; exact Or.inr ⟨m, by omega, rfl, e2⟩
    rcases key 6 (Nat.le_refl _) with ⟨a, -, c⟩ | h9
    · exact Or.inl ⟨a, c⟩
    · exact Or.inr h9
def pS (B : Nat → Nat) : Nat → Nat
  | 0 => 0
  | m + 1 => pS B m + B m
theorem pS_6 (B : Nat → Nat) : pS B 6 = sum6 B := by
  show 0 + B 0 + B 1 + B 2 + B 3 + B 4 + B 5 = B 0 + B 1 + B 2 + B 3 + B 4 + B 5
  omega
theorem pS_le (B : Nat → Nat) (m j : Nat) : pS B m ≤ pS B (m + j) := by
  induction j with
  | zero => exact Nat.le_refl _
  | succ j ih => exact Nat.le_trans ih (Nat.le_add_right _ _)
theorem f_calls (h : sY q p n d k t v) : ∃ (E : Nat → Nat) (M : Nat), q.2 5 = nI M ∧ (∀ c, c < 6 → rAt 6 (q.1 21) (nI c) + rAt 6 (q.1 20) (nI c) = nI (E c)) ∧ M + pS E 6 ≤ t := by
  have hI := h.1.1
  obtain ⟨C, D, M, h1, h2, h3, h4⟩ := h.2.2.2.2.2.1
  refine ⟨fun c => D c + C c, M, hI.f5.trans h3, fun c hc => ?_, ?_⟩
  · rw [rAt_in hc (by decide), rAt_in hc (by decide), (hI.call c hc).1, (hI.call c hc).2, h1 c hc, h2 c hc, nI_add]
  · rw [pS_6]
    show M + (D 0 + C 0 + (D 1 + C 1) + (D 2 + C 2) + (D 3 + C 3) + (D 4 + C 4) + (D 5 + C 5)) ≤ t
    have h4 : M + (C 0 + C 1 + C 2 + C 3 + C 4 + C 5) + (D 0 + D 1 + D 2 + D 3 + D 4 + D 5) ≤ t := h4
    omega
end S98
/-- the lower of two parts of an int -/
theorem low_ok (a : Int32) {n : Nat} (h0 : 0 < n) (hn : n < 2 ^ 31) : ∃ j, j < n ∧ (a &&& 2147483647) - (a &&& 2147483647) / nI n * nI n = nI j := by
  obtain ⟨A, hA, e⟩ : ∃ A, A < 2 ^ 31 ∧ a &&& 2147483647 = nI A := by
    refine ⟨(a &&& 2147483647).toBitVec.toNat, ?_, ?_⟩
    · rw [Int32.toBitVec_and, BitVec.toNat_and]
      have h : (2147483647 : Int32).toBitVec.toNat = 2147483647 := by decide
      rw [h]
      have := Nat.and_le_right (n := a.toBitVec.toNat) (m := 2147483647)
      omega
    · apply Int32.toBitVec_inj.mp
      show (a &&& 2147483647).toBitVec = BitVec.ofNat 32 ((a &&& 2147483647).toBitVec.toNat)
      apply BitVec.eq_of_toNat_eq
      rw [BitVec.toNat_ofNat, Nat.mod_eq_of_lt (BitVec.isLt _)]
  rw [e, pk_rem hA h0 hn]
  exact ⟨A % n, Nat.mod_lt _ h0, rfl⟩
def cLow (a b : Int32) : Int32 := (a &&& 2147483647) - (a &&& 2147483647) / b * b
def cCell (L : Nat) (xs : Nat → Int32) (k : Nat) : Int32 := if k < L then xs k else nI 7919 * (nI k + nI 3) * (nI k + nI 11)
