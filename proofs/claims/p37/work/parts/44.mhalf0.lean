theorem g_joinW (GW : Heap → List Loc → JFrame → Prop) {H0 : Heap} {locs0 : List Loc} {g0 : JFrame} (m : MethodId) (pc nL : Nat) (L : List (Nat × Value)) (st : List Value) (I : Heap → List Loc → Prop) (hc : ∀ H locs, I H locs → ∀ ls, lv_has ls nL L → GW H locs (F0 m pc ls st)) (hm : (∀ H locs, I H locs → ∀ ls, lv_has ls nL L → GW H locs (F0 m pc ls st)) → GW H0 locs0 g0) : GW H0 locs0 g0 := hm hc
def kOf (f : Nat → Int32) : Nat := (f 6).toNatClampNeg
def mStR (n d : Nat) (r : Nat → Nat → Int32) (f : Nat → Int32) (x : Int32) : Nat → Nat → Int32 :=
  if mOpen r (kOf f) x = -1 then (if mBad r n d x (-1) then (if nI 200 ≤ f 6 then r else mOpenR r f n d (kOf f) x) else r) else (if mBad r n d x (-1) then r else upR r 16 (upd (r 16) (mOpen r (kOf f) x).toNatClampNeg (f 1)))
def mStF (n d : Nat) (r : Nat → Nat → Int32) (f : Nat → Int32) (x : Int32) : Nat → Int32 :=
  if mOpen r (kOf f) x = -1 then (if mBad r n d x (-1) then (if nI 200 ≤ f 6 then f else upF f 6 (f 6 + nI 1)) else f) else f
def mSt (n d i : Nat) (q : gRF) : gRF := (mStR n d q.1 q.2 (nI i), mStF n d q.1 q.2 (nI i))
def mSA (n d i : Nat) (q : gRF × Bool) : gRF × Bool := (mSt n d i q.1, if q.2 then true else if mOpen (mSt n d i q.1).1 (kOf (mSt n d i q.1).2) (nI i) = -1 then false else true)
def mB0 (q : gRF) : gRF := if (cTime q.2 + 1) % 14 = 0 then (mBegR q.1 (q.1 9 ((cTime q.2 + 1) / 14)).toNatClampNeg ((cTime q.2 + 1) / 14), upF q.2 1 (q.2 1 + nI 1)) else (q.1, upF q.2 1 (q.2 1 + nI 1))
def mZ (n d : Nat) (q : gRF) (i : Nat) : gRF × Bool := itN i (mSA n d) (mB0 q, false)
theorem mZ_s (n d : Nat) (q : gRF) (i : Nat) : mZ n d q (i + 1) = mSA n d i (mZ n d q i) := rfl
def mHalf (n d : Nat) (q : gRF) : gRF :=
  if (mZ n d q 4).2 then (mRgR (mZ n d q 4).1.1 (mZ n d q 4).1.2 (cTime q.2 + 1) ((mZ n d q 4).1.1 9 ((cTime q.2 + 1) / 14)).toNatClampNeg (kOf q.2) (kOf (mZ n d q 4).1.2 - kOf q.2), mRgF (mZ n d q 4).1.1 (mZ n d q 4).1.2 (cTime q.2 + 1) ((mZ n d q 4).1.1 9 ((cTime q.2 + 1) / 14)).toNatClampNeg) else (mZ n d q 4).1
theorem mOpen_in {r : Nat → Nat → Int32} {k : Nat} {x : Int32} (hk : k ≤ 200) (h : ¬ mOpen r k x = -1) : mOpen r k x = nI (mOpen r k x).toNatClampNeg ∧ (mOpen r k x).toNatClampNeg < k := by
  obtain ⟨j, h1, h2, -⟩ := lastN_ex h
  have e : mOpen r k x = nI j := h2
  rw [e, nI_clamp (by omega)]
  exact ⟨rfl, h1⟩
def mG (n d t : Nat) (q : gRF) : Prop := mOK q.1 q.2 n d (kOf q.2) t
theorem mG_k {n d t : Nat} {q : gRF} {k : Nat} (h : mOK q.1 q.2 n d k t) : mG n d t q ∧ kOf q.2 = k := by
  obtain ⟨hn, hn2, hd, hd2, hk, hk2, ht, ht2, hh, hm⟩ := id h
  have e : kOf q.2 = k := by show (q.2 6).toNatClampNeg = k; rw [hk, nI_clamp (by omega)]
  exact ⟨by show mOK q.1 q.2 n d (kOf q.2) t; rw [e]; exact h, e⟩
theorem mSt_ok {n d t i : Nat} {q : gRF} (h : mG n d t q) : mG n d t (mSt n d i q) ∧ kOf q.2 ≤ kOf (mSt n d i q).2 := by
  obtain ⟨hn, hn2, hd, hd2, hk, hk2, ht, ht2, hh, hm⟩ := id h
  by_cases h1 : mOpen q.1 (kOf q.2) (nI i) = -1
  · by_cases h2 : mBad q.1 n d (nI i) (-1) = true
    · by_cases h3 : nI 200 ≤ q.2 6
      · have e : mSt n d i q = q := by simp only [mSt, mStR, mStF, eq_true h1, h2, eq_true h3, ↓reduceIte]
        rw [e]; exact ⟨h, Nat.le_refl _⟩
      · have e : mSt n d i q = (mOpenR q.1 q.2 n d (kOf q.2) (nI i), upF q.2 6 (q.2 6 + nI 1)) := by simp only [mSt, mStR, mStF, eq_true h1, h2, eq_false h3, ↓reduceIte]
        have hk3 : kOf q.2 < 200 := by
          rw [hk] at h3
          have h9 := mt (nI_leI (a := 200) (b := kOf q.2) (by decide) (by omega)).mpr h3
          omega
        have h6 : upF q.2 6 (q.2 6 + nI 1) 6 = nI (kOf q.2 + 1) := by show q.2 6 + nI 1 = _; rw [hk, nI_add]
        have hr : mOpenR q.1 q.2 n d (kOf q.2) (nI i) 9 = q.1 9 ∧ mOpenR q.1 q.2 n d (kOf q.2) (nI i) 4 = q.1 4 := by
          unfold mOpenR
          split <;> exact ⟨rfl, rfl⟩
        rw [e]
        have hok : mOK (mOpenR q.1 q.2 n d (kOf q.2) (nI i)) (upF q.2 6 (q.2 6 + nI 1)) n d (kOf q.2 + 1) t := ⟨hn, hn2, hd, hd2, h6, by omega, ht, ht2, by rw [hr.1]; exact hh, by rw [hr.2]; exact hm⟩
        obtain ⟨g1, g2⟩ := mG_k (q := (mOpenR q.1 q.2 n d (kOf q.2) (nI i), upF q.2 6 (q.2 6 + nI 1))) hok
        exact ⟨g1, by rw [g2]; omega⟩
    · have h2 := Bool.eq_false_iff.mpr h2
      have e : mSt n d i q = q := by simp only [mSt, mStR, mStF, eq_true h1, h2, ↓reduceIte, Bool.false_eq_true]
      rw [e]; exact ⟨h, Nat.le_refl _⟩
  · by_cases h2 : mBad q.1 n d (nI i) (-1) = true
    · have e : mSt n d i q = q := by simp only [mSt, mStR, mStF, eq_false h1, h2, ↓reduceIte]
      rw [e]; exact ⟨h, Nat.le_refl _⟩
    · have h2 := Bool.eq_false_iff.mpr h2
      have e : mSt n d i q = (upR q.1 16 (upd (q.1 16) (mOpen q.1 (kOf q.2) (nI i)).toNatClampNeg (q.2 1)), q.2) := by simp only [mSt, mStR, mStF, eq_false h1, h2, ↓reduceIte, Bool.false_eq_true]
      rw [e]; exact ⟨h, Nat.le_refl _⟩
theorem mZ_ok {n d t : Nat} {q : gRF} (h : mG n d t (mB0 q)) (i : Nat) : mG n d t (mZ n d q i).1 ∧ kOf (mB0 q).2 ≤ kOf (mZ n d q i).1.2 := by
  induction i with
  | zero => exact ⟨h, Nat.le_refl _⟩
  | succ i ih =>
    obtain ⟨h1, h2⟩ := mSt_ok (i := i) ih.1
    rw [mZ_s]
    exact ⟨h1, Nat.le_trans ih.2 h2⟩
theorem mBg_ne {r : Nat → Nat → Int32} {w : Nat} : ¬ itN 6 (mBgI r w) (-1) = -1 := by
  have keep : ∀ (i : Nat) (q : Int32), ¬ q = -1 → ¬ mBgI r w i q = -1 := by
    intro i q hq
    unfold mBgI
    split
    · exact hq
    · split
      · exact hq
      · exact nI_ne_m1 (by omega)
  have h2 : ¬ itN 2 (mBgI r w) (-1) = -1 := by
    show ¬ mBgI r w 1 (mBgI r w 0 (-1)) = -1
    by_cases h0 : nI (5 - 0) = r 9 w
    · have e0 : mBgI r w 0 (-1) = -1 := by unfold mBgI; rw [if_pos h0]
      rw [e0]
      have h1 : ¬ nI (5 - 1) = r 9 w := by rw [← h0]; decide
      unfold mBgI
      rw [if_neg h1, if_pos rfl]
      decide
    · apply keep
      unfold mBgI
      rw [if_neg h0, if_pos rfl]
      decide
  exact keep 5 _ (keep 4 _ (keep 3 _ (keep 2 _ h2)))
theorem mB0_ok {n d t k : Nat} {q : gRF} (h : mOK q.1 q.2 n d k t) (ht9 : t < 560) : mOK (mB0 q).1 (mB0 q).2 n d k (t + 1) := by
  obtain ⟨hn, hn2, hd, hd2, hk, hk2, ht, ht2, hh, hm⟩ := id h
  have hT : cTime q.2 = t := by show (q.2 1).toNatClampNeg = t; rw [ht, nI_clamp (by omega)]
  have h1 : q.2 1 + nI 1 = nI (t + 1) := by rw [ht, nI_add]
  unfold mB0
  rw [hT]
  by_cases hw : (t + 1) % 14 = 0
  · rw [if_pos hw]
    refine ⟨hn, hn2, hd, hd2, hk, hk2, h1, by omega, ?_, hm⟩
    intro w hw2
    show ∃ h, h < 6 ∧ upd (q.1 9) ((t + 1) / 14 + 1) _ w = nI h
    unfold upd
    split
    · rcases itN_or (P := fun x => x = -1 ∨ ∃ j, j < 6 ∧ x = nI j) (Or.inl rfl) 6 (fun i x _ hx => mBgI_ok (r := upR q.1 10 (upd (q.1 10) (q.1 9 ((t + 1) / 14)).toNatClampNeg (nI 0))) (w := (t + 1) / 14) (i := i) hx) with h9 | h9
      · exact absurd h9 mBg_ne
      · exact h9
    · exact hh w (by omega)
  · rw [if_neg hw]
    exact ⟨hn, hn2, hd, hd2, hk, hk2, h1, by omega, fun w hw2 => hh w (by omega), hm⟩
theorem mRg_ok {n d t : Nat} {q : gRF} {h a b : Nat} (hg : mG n d t q) : mG n d t (mRgR q.1 q.2 t h a b, mRgF q.1 q.2 t h) ∧ kOf (mRgF q.1 q.2 t h) = kOf q.2 := by
  obtain ⟨hn, hn2, hd, hd2, hk, hk2, ht, ht2, hh, hm⟩ := id hg
  have e1 : mRgR q.1 q.2 t h a b 9 = q.1 9 ∧ mRgR q.1 q.2 t h a b 4 = q.1 4 := by
    unfold mRgR
    split
    · exact ⟨rfl, rfl⟩
    · split <;> exact ⟨rfl, rfl⟩
  have e2 : ∀ j, j ≠ 5 → mRgF q.1 q.2 t h j = q.2 j := by
    intro j hj
    unfold mRgF
    split
    · show (bif Nat.beq j 5 then _ else q.2 j) = q.2 j
      cases h9 : Nat.beq j 5 with
      | false => rfl
      | true => exact absurd (Nat.eq_of_beq_eq_true h9) hj
    · rfl
  have e3 : kOf (mRgF q.1 q.2 t h) = kOf q.2 := by show (mRgF q.1 q.2 t h 6).toNatClampNeg = _; rw [e2 6 (by decide)]; rfl
  refine ⟨?_, e3⟩
  show mOK _ (mRgF q.1 q.2 t h) n d (kOf (mRgF q.1 q.2 t h)) t
  rw [e3]
  exact ⟨(e2 4 (by decide)).trans hn, hn2, (e2 3 (by decide)).trans hd, hd2, (e2 6 (by decide)).trans hk, hk2, (e2 1 (by decide)).trans ht, ht2, by show ∀ w, w ≤ t / 14 + 1 → ∃ h_1, h_1 < 6 ∧ mRgR q.1 q.2 t h a b 9 w = nI h_1; rw [e1.1]; exact hh, by show ∀ c, c < n → ∃ m, m < 6 ∧ mRgR q.1 q.2 t h a b 4 c = nI m; rw [e1.2]; exact hm⟩
