/-! what the law asks for beyond the simulation -/
def sum6 (B : Nat → Nat) : Nat := B 0 + B 1 + B 2 + B 3 + B 4 + B 5
theorem sum6_up {B : Nat → Nat} {x : Nat} (hx : x < 6) (a : Nat) : sum6 (fun j => if j = x then a else B j) + B x = sum6 B + a := by
  rcases (show x = 0 ∨ x = 1 ∨ x = 2 ∨ x = 3 ∨ x = 4 ∨ x = 5 by omega) with e | e | e | e | e | e
  · subst e; show a + B 1 + B 2 + B 3 + B 4 + B 5 + B 0 = B 0 + B 1 + B 2 + B 3 + B 4 + B 5 + a; omega
  · subst e; show B 0 + a + B 2 + B 3 + B 4 + B 5 + B 1 = B 0 + B 1 + B 2 + B 3 + B 4 + B 5 + a; omega
  · subst e; show B 0 + B 1 + a + B 3 + B 4 + B 5 + B 2 = B 0 + B 1 + B 2 + B 3 + B 4 + B 5 + a; omega
  · subst e; show B 0 + B 1 + B 2 + a + B 4 + B 5 + B 3 = B 0 + B 1 + B 2 + B 3 + B 4 + B 5 + a; omega
  · subst e; show B 0 + B 1 + B 2 + B 3 + a + B 5 + B 4 = B 0 + B 1 + B 2 + B 3 + B 4 + B 5 + a; omega
  · subst e; show B 0 + B 1 + B 2 + B 3 + B 4 + a + B 5 = B 0 + B 1 + B 2 + B 3 + B 4 + B 5 + a; omega
theorem upd_at {g : Nat → Int32} {B : Nat → Nat} {x a : Nat} {w : Int32} (hg : ∀ c, c < 6 → g c = nI (B c)) (hw : w = nI a) : ∀ c, c < 6 → upd g x w c = nI ((fun j => if j = x then a else B j) c) := fun c hc => by
  by_cases e : c = x
  · subst e
    rw [upd_s, hw]
    show nI a = nI (if c = c then a else B c)
    rw [if_pos rfl]
  · rw [upd_n e, hg c hc]
    show nI (B c) = nI (if c = x then a else B c)
    rw [if_neg e]
def yN (p : gRF) : Prop := ∀ c, c < 8 → ∀ y, bB (p.1 0 c) y = true → y < c
def cPrv (q : gRF) (c : Nat) : Int32 := if q.1 9 c = -1 then nI 0 else rAt 200 (q.1 8) (q.1 9 c)
def yV (q : gRF) (n : Nat) : Prop := ∀ c, c < n → ¬ q.1 8 c = cPrv q c
def yH (p : gRF) (t : Nat) : Prop := ¬ p.1 9 (t / 14) = p.1 9 (t / 14 + 1)
def yB (p : gRF) (k : Nat) : Prop := ∃ B : Nat → Nat, (∀ c, c < 6 → p.1 10 c = nI (B c)) ∧ sum6 B ≤ k
def yC (p : gRF) (t : Nat) : Prop := ∃ (C D : Nat → Nat) (M : Nat), (∀ c, c < 6 → p.1 12 c = nI (C c)) ∧ (∀ c, c < 6 → p.1 13 c = nI (D c)) ∧ p.2 5 = nI M ∧ M + sum6 C + sum6 D ≤ t
def yO (p : gRF) (k : Nat) : Prop := ∀ i, i < k → ∃ y, y ≤ 560 ∧ p.1 15 i = nI y
def sY (q p : gRF) (n d k t v : Nat) : Prop := sX q p n d k t v ∧ yN p ∧ yV q n ∧ yH p t ∧ yB p k ∧ yC p t ∧ yO p k
/-- rows that neither an incident nor a call touches -/
def ySame (p p2 : gRF) : Prop := p2.1 0 = p.1 0 ∧ p2.1 9 = p.1 9 ∧ p2.1 12 = p.1 12 ∧ p2.1 13 = p.1 13 ∧ p2.2 5 = p.2 5
theorem ySame.tr {p p2 p3 : gRF} (h : ySame p p2) (h2 : ySame p2 p3) : ySame p p3 := ⟨h2.1.trans h.1, h2.2.1.trans h.2.1, h2.2.2.1.trans h.2.2.1, h2.2.2.2.1.trans h.2.2.2.1, h2.2.2.2.2.trans h.2.2.2.2⟩
theorem ySame.C {p p2 : gRF} {t : Nat} (h : ySame p p2) (hC : yC p t) : yC p2 t := by
  obtain ⟨C, D, M, h1, h2, h3, h4⟩ := hC
  exact ⟨C, D, M, by rw [h.2.2.1]; exact h1, by rw [h.2.2.2.1]; exact h2, by rw [h.2.2.2.2]; exact h3, h4⟩
theorem mBg_nh {r : Nat → Nat → Int32} {w : Nat} : ¬ itN 6 (mBgI r w) (-1) = r 9 w := by
  have h : itN 6 (mBgI r w) (-1) = -1 ∨ ¬ itN 6 (mBgI r w) (-1) = r 9 w := itN_or (P := fun x => x = -1 ∨ ¬ x = r 9 w) (Or.inl rfl) 6 (fun i x _ hx => by
    show mBgI r w i x = -1 ∨ ¬ mBgI r w i x = r 9 w
    unfold mBgI
    split
    · exact hx
    · rename_i e
      split
      · exact Or.inr e
      · split
        · exact hx
        · exact Or.inr e)
  exact h.resolve_left mBg_ne
section S96
variable {q p : gRF} {n d k t v : Nat}
theorem y_beg (h : sX q p n d k t v) (ht9 : t < 560) (hH : yH p t) (hB : yB p k) : yH (mB0 p) (t + 1) ∧ yB (mB0 p) k ∧ (mB0 p).1 0 = p.1 0 ∧ (mB0 p).1 12 = p.1 12 ∧ (mB0 p).1 13 = p.1 13 ∧ (mB0 p).1 15 = p.1 15 ∧ (mB0 p).2 5 = p.2 5 := by
  obtain ⟨h, hnew, hone⟩ := h
  obtain ⟨hn, hn2, hd, hd2, hk, hk2, ht, ht2, hh, hmk⟩ := id h.ok
  obtain ⟨hT1, hT2⟩ := s_tM h
  unfold mB0
  rw [hT2]
  by_cases hw : (t + 1) % 14 = 0
  · rw [if_pos hw]
    have hw1 : t / 14 + 1 = (t + 1) / 14 := by omega
    obtain ⟨x, hx, ex⟩ := hh ((t + 1) / 14) (by omega)
    have hcl : (p.1 9 ((t + 1) / 14)).toNatClampNeg = x := by rw [ex, nI_clamp (by omega)]
    rw [hcl]
    refine ⟨?_, ?_, rfl, rfl, rfl, rfl, rfl⟩
    · show ¬ upd (p.1 9) ((t + 1) / 14 + 1) (itN 6 (mBgI (upR p.1 10 (upd (p.1 10) x (nI 0))) ((t + 1) / 14)) (-1)) ((t + 1) / 14) = upd (p.1 9) ((t + 1) / 14 + 1) (itN 6 (mBgI (upR p.1 10 (upd (p.1 10) x (nI 0))) ((t + 1) / 14)) (-1)) ((t + 1) / 14 + 1)
      rw [upd_s, upd_n (by omega)]
      exact fun z => mBg_nh (r := upR p.1 10 (upd (p.1 10) x (nI 0))) (w := (t + 1) / 14) z.symm
    · obtain ⟨B, h1, h2⟩ := hB
      refine ⟨fun j => if j = x then 0 else B j, upd_at (a := 0) h1 rfl, ?_⟩
      have := sum6_up (B := B) hx 0
      omega
  · rw [if_neg hw]
    refine ⟨?_, hB, rfl, rfl, rfl, rfl, rfl⟩
    have e : (t + 1) / 14 = t / 14 := by omega
    show ¬ p.1 9 ((t + 1) / 14) = p.1 9 ((t + 1) / 14 + 1)
    rw [e]
    exact hH
theorem y_step (h : sX q p n d k t v) {i : Nat} (hi : i < 4) (hB : yB p k) (hO : yO p k) : ∃ k2, k ≤ k2 ∧ sX (cStep i q) (mSt n d i p) n d k2 t v ∧ yB (mSt n d i p) k2 ∧ yO (mSt n d i p) k2 ∧ ySame p (mSt n d i p) := by
  obtain ⟨k2, hk9, h2⟩ := s_step h hi
  have e2 : kOf (mSt n d i p).2 = k2 := s_kOf h2.1
  have ek : kOf p.2 = k := s_kOf h.1
  refine ⟨k2, hk9, h2, ?_⟩
  clear h2
  obtain ⟨hn, hn2, hd, hd2, hk, hk2, ht, ht2, hh, hm⟩ := id h.1.ok
  have same : mSt n d i p = p → yB (mSt n d i p) k2 ∧ yO (mSt n d i p) k2 ∧ ySame p (mSt n d i p) := fun e => by
    rw [e] at e2 ⊢
    have e3 : k2 = k := e2.symm.trans ek
    rw [e3]
    exact ⟨hB, hO, rfl, rfl, rfl, rfl, rfl⟩
  by_cases h1 : mOpen p.1 (kOf p.2) (nI i) = -1
  · by_cases h2 : mBad p.1 n d (nI i) (-1) = true
    · by_cases h3 : nI 200 ≤ p.2 6
      · exact same (by simp only [mSt, mStR, mStF, eq_true h1, h2, eq_true h3, ↓reduceIte])
      · have e : mSt n d i p = (mOpenR p.1 p.2 n d (kOf p.2) (nI i), upF p.2 6 (p.2 6 + nI 1)) := by simp only [mSt, mStR, mStF, eq_true h1, h2, eq_false h3, ↓reduceIte]
        have hk3 : k < 200 := by
          rw [hk] at h3
          have h9 := mt (nI_leI (a := 200) (b := k) (by decide) (by omega)).mpr h3
          omega
        rw [e] at e2 ⊢
        rw [ek]
        have e3 : k2 = k + 1 := by
          rw [← e2]
          show (upF p.2 6 (p.2 6 + nI 1) 6).toNatClampNeg = _
          rw [upF_s, hk, nI_add, nI_clamp (by omega)]
        rw [e3]
        have hO2 : ∀ i, i < k + 1 → ∃ y, y ≤ 560 ∧ upd (p.1 15) k (p.2 1) i = nI y := fun j hj => by
          by_cases ej : j = k
          · subst ej; rw [upd_s]; exact ⟨t, ht2, ht⟩
          · rw [upd_n ej]; exact hO j (by omega)
        unfold mOpenR
        by_cases hT : mTrace p.1 n d (nI i) = -1
        · rw [if_pos hT]
          obtain ⟨B, h4, h5⟩ := hB
          exact ⟨⟨B, h4, by omega⟩, hO2, rfl, rfl, rfl, rfl, rfl⟩
        · rw [if_neg hT]
          obtain ⟨h6, h7⟩ := mMk_ok hm (by omega) hT
          refine ⟨?_, hO2, rfl, rfl, rfl, rfl, rfl⟩
          obtain ⟨B, h4, h5⟩ := hB
          refine ⟨fun j => if j = mMk p.1 (mTrace p.1 n d (nI i)) then B (mMk p.1 (mTrace p.1 n d (nI i))) + 1 else B j, upd_at h4 (by rw [h4 _ h7, nI_add]), ?_⟩
          have := sum6_up (B := B) h7 (B (mMk p.1 (mTrace p.1 n d (nI i))) + 1)
          omega
    · have h2 := Bool.eq_false_iff.mpr h2
      exact same (by simp only [mSt, mStR, mStF, eq_true h1, h2, ↓reduceIte, Bool.false_eq_true])
  · by_cases h2 : mBad p.1 n d (nI i) (-1) = true
    · exact same (by simp only [mSt, mStR, mStF, eq_false h1, h2, ↓reduceIte])
    · have h2 := Bool.eq_false_iff.mpr h2
      have e : mSt n d i p = (upR p.1 16 (upd (p.1 16) (mOpen p.1 (kOf p.2) (nI i)).toNatClampNeg (p.2 1)), p.2) := by simp only [mSt, mStR, mStF, eq_false h1, h2, ↓reduceIte, Bool.false_eq_true]
      rw [e] at e2 ⊢
      have e3 : k2 = k := e2.symm.trans ek
      rw [e3]
      exact ⟨hB, hO, rfl, rfl, rfl, rfl, rfl⟩
theorem y_rg (h : sX q p n d k t v) {a b T : Nat} (hC : yC p T) : yC (mRgR p.1 p.2 t (p.1 9 (t / 14)).toNatClampNeg a b, mRgF p.1 p.2 t (p.1 9 (t / 14)).toNatClampNeg) (T + 1) ∧ mRgR p.1 p.2 t (p.1 9 (t / 14)).toNatClampNeg a b 0 = p.1 0 ∧ mRgR p.1 p.2 t (p.1 9 (t / 14)).toNatClampNeg a b 9 = p.1 9 ∧ mRgR p.1 p.2 t (p.1 9 (t / 14)).toNatClampNeg a b 10 = p.1 10 ∧ mRgR p.1 p.2 t (p.1 9 (t / 14)).toNatClampNeg a b 15 = p.1 15 := by
  obtain ⟨hn, hn2, hd, hd2, hk, hk2, ht, ht2, hh, hm⟩ := id h.1.ok
  obtain ⟨x, hx, ex⟩ := hh (t / 14) (by omega)
  have hD6 : mCalled p.1 p.2 t (p.1 9 (t / 14)).toNatClampNeg = -1 ∨ ∃ j, j < 6 ∧ mCalled p.1 p.2 t (p.1 9 (t / 14)).toNatClampNeg = nI j := mCalled_ok (by rw [ex, nI_clamp (by omega)]) (by rw [ex, nI_clamp (by omega)]; exact hx)
  obtain ⟨C, D, M, h1, h2, h3, h4⟩ := hC
  unfold mRgR mRgF mFiR
  generalize mCalled p.1 p.2 t (p.1 9 (t / 14)).toNatClampNeg = E at hD6 ⊢
  rcases hD6 with e | ⟨y, hy, e⟩
  · rw [if_pos e, if_pos e]
    refine ⟨⟨C, D, M + 1, h1, h2, ?_, by omega⟩, rfl, rfl, rfl, rfl⟩
    show upF p.2 5 (p.2 5 + nI 1) 5 = _
    rw [upF_s, h3, nI_add]
  · have e9 : ¬ E = -1 := by rw [e]; exact nI_ne_m1 (by omega)
    have e8 : E.toNatClampNeg = y := by rw [e, nI_clamp (by omega)]
    rw [if_neg e9, if_neg e9, e8]
    by_cases e7 : p.2 1 - p.2 1 / nI 2 * nI 2 = 0
    · rw [if_pos e7]
      refine ⟨⟨fun j => if j = y then C y + 1 else C j, D, M, upd_at h1 (by rw [h1 y hy, nI_add]), h2, h3, ?_⟩, rfl, rfl, rfl, rfl⟩
      have := sum6_up (B := C) hy (C y + 1)
      omega
    · rw [if_neg e7]
      refine ⟨⟨C, fun j => if j = y then D y + 1 else D j, M, h1, upd_at h2 (by rw [h2 y hy, nI_add]), h3, ?_⟩, rfl, rfl, rfl, rfl⟩
      have := sum6_up (B := D) hy (D y + 1)
      omega
/-- the class's rows of changes are not touched as a half passes -/
theorem cStep_row (i : Nat) (q : gRF) : (cStep i q).1 8 = q.1 8 ∧ (cStep i q).1 9 = q.1 9 := by
  show cSetR q.1 q.2 (nI i) 8 = q.1 8 ∧ cSetR q.1 q.2 (nI i) 9 = q.1 9
  unfold cSetR cCloseR cOpenR
  split
  · split
    · split
      · split
        · exact ⟨rfl, rfl⟩
        · exact ⟨rfl, rfl⟩
      · exact ⟨rfl, rfl⟩
    · exact ⟨rfl, rfl⟩
  · split
    · exact ⟨rfl, rfl⟩
    · exact ⟨rfl, rfl⟩
theorem cBeg_row (q : gRF) : (cBeg q).1 8 = q.1 8 ∧ (cBeg q).1 9 = q.1 9 := by
  show cBegR q.1 (cTime q.2) 8 = q.1 8 ∧ cBegR q.1 (cTime q.2) 9 = q.1 9
  unfold cBegR
  split
  · exact ⟨rfl, rfl⟩
  · exact ⟨rfl, rfl⟩
theorem cSteps_row (q : gRF) (m : Nat) : (itN m cStep (cBeg q)).1 8 = q.1 8 ∧ (itN m cStep (cBeg q)).1 9 = q.1 9 := by
  induction m with
  | zero => exact cBeg_row q
  | succ m ih =>
    rw [itN_s]
    obtain ⟨a, b⟩ := cStep_row m (itN m cStep (cBeg q))
    exact ⟨a.trans ih.1, b.trans ih.2⟩
theorem cCall_row (r : Nat → Nat → Int32) (f : Nat → Int32) (a b : Nat) : cCIR r f a b 8 = r 8 ∧ cCIR r f a b 9 = r 9 := by
  unfold cCIR cNoteR cCallR
  split
  · split
    · exact ⟨rfl, rfl⟩
    · split
      · exact ⟨rfl, rfl⟩
      · exact ⟨rfl, rfl⟩
  · exact ⟨rfl, rfl⟩
theorem cHalf_row (q : gRF) : (cHalf q).1 8 = q.1 8 ∧ (cHalf q).1 9 = q.1 9 := by
  rw [cHalf_eq]
  obtain ⟨a, b⟩ := cSteps_row q 4
  generalize itN 4 cStep (cBeg q) = u at a b ⊢
  obtain ⟨c, e⟩ := cCall_row u.1 u.2 (cInc q.2) (cInc u.2 - cInc q.2)
  exact ⟨c.trans a, e.trans b⟩
theorem yV_rows {q q2 : gRF} {n : Nat} (h8 : q2.1 8 = q.1 8) (h9 : q2.1 9 = q.1 9) (h : yV q n) : yV q2 n := fun c hc => by
  unfold cPrv
  rw [h8, h9]
  exact h c hc
theorem y_half (h : sY q p n d k t v) (ht9 : t < 560) : ∃ k2, k ≤ k2 ∧ sY (cHalf q) (mHalf n d p) n d k2 (t + 1) v := by
  obtain ⟨hs, hN, hV, hH, hB, hC, hO⟩ := h
  obtain ⟨k2, hk2, hs2⟩ := s_half hs ht9
  refine ⟨k2, hk2, hs2, ?_⟩
  obtain ⟨b1, b2, b3, b4, b5, b6, b7⟩ := y_beg hs ht9 hH hB
  have hsb := s_beg hs ht9
  obtain ⟨hT1, hT2⟩ := s_tM hs.1
  have key : ∀ m, m ≤ 4 → ∃ k3, sX (itN m cStep (cBeg q)) (mZ n d p m).1 n d k3 (t + 1) v ∧ yB (mZ n d p m).1 k3 ∧ yO (mZ n d p m).1 k3 ∧ ySame (mB0 p) (mZ n d p m).1 := by
    intro m
    induction m with
    | zero =>
      intro _
      exact ⟨k, hsb, b2, fun i hi => by rw [show (mZ n d p 0).1.1 15 = p.1 15 from b6]; exact hO i hi, rfl, rfl, rfl, rfl, rfl⟩
    | succ m ih =>
      intro hm
      obtain ⟨k3, c1, c2, c3, c4⟩ := ih (by omega)
      obtain ⟨k4, -, e1, e2, e3, e4⟩ := y_step c1 (show m < 4 by omega) c2 c3
      rw [mZ_s, itN_s]
      exact ⟨k4, e1, e2, e3, c4.tr e4⟩
  obtain ⟨k3, c1, c2, c3, c4⟩ := key 4 (Nat.le_refl _)
  have hCb : yC (mB0 p) t := by
    obtain ⟨C, D, M, h1, h2, h3, h4⟩ := hC
    exact ⟨C, D, M, by rw [b4]; exact h1, by rw [b5]; exact h2, by rw [b7]; exact h3, h4⟩
  have hC4 := c4.C hCb
  obtain ⟨r8, r9⟩ := cHalf_row q
  have hV2 := yV_rows r8 r9 hV
  have hk3 : kOf (mHalf n d p).2 = k2 := s_kOf hs2.1
  have hk4 : kOf (mZ n d p 4).1.2 = k3 := s_kOf c1.1
  clear key hs2
  unfold mHalf at hk3 ⊢
  rw [hT2] at hk3 ⊢
  generalize mZ n d p 4 = z at c1 c2 c3 c4 hC4 hk3 hk4 ⊢
  obtain ⟨z1, z2⟩ := z
  cases z2 with
  | false =>
    have hk3 : kOf z1.2 = k2 := hk3
    have hk4 : kOf z1.2 = k3 := hk4
    have e : k3 = k2 := hk4.symm.trans hk3
    subst e
    refine ⟨?_, hV2, ?_, c2, ?_, c3⟩
    · intro c hc y hy
      have hy : bB (z1.1 0 c) y = true := hy
      rw [c4.1, b3] at hy
      exact hN c hc y hy
    · show ¬ z1.1 9 _ = z1.1 9 _
      rw [c4.2.1]; exact b1
    · obtain ⟨C, D, M, h1, h2, h3, h4⟩ := hC4
      exact ⟨C, D, M, h1, h2, h3, by omega⟩
  | true =>
    obtain ⟨f1, f2, f3, f4, f5⟩ := y_rg c1 (a := kOf p.2) (b := kOf z1.2 - kOf p.2) hC4
    obtain ⟨-, g2⟩ := mRg_ok (h := (z1.1 9 ((t + 1) / 14)).toNatClampNeg) (a := kOf p.2) (b := kOf z1.2 - kOf p.2) (mG_k c1.1.ok).1
    have hk3 : kOf (mRgF z1.1 z1.2 (t + 1) (z1.1 9 ((t + 1) / 14)).toNatClampNeg) = k2 := hk3
    have hk4 : kOf z1.2 = k3 := hk4
    have e : k3 = k2 := (hk4.symm.trans g2.symm).trans hk3
    subst e
    refine ⟨?_, hV2, ?_, ?_, f1, ?_⟩
    · intro c hc y hy
      have hy : bB (mRgR z1.1 z1.2 (t + 1) (z1.1 9 ((t + 1) / 14)).toNatClampNeg (kOf p.2) (kOf z1.2 - kOf p.2) 0 c) y = true := hy
      rw [f2, c4.1, b3] at hy
      exact hN c hc y hy
    · show ¬ mRgR z1.1 z1.2 (t + 1) (z1.1 9 ((t + 1) / 14)).toNatClampNeg (kOf p.2) (kOf z1.2 - kOf p.2) 9 _ = mRgR z1.1 z1.2 (t + 1) (z1.1 9 ((t + 1) / 14)).toNatClampNeg (kOf p.2) (kOf z1.2 - kOf p.2) 9 _
      rw [f3, c4.2.1]; exact b1
    · obtain ⟨B, h1, h2⟩ := c2
      refine ⟨B, ?_, h2⟩
      show ∀ c, c < 6 → mRgR z1.1 z1.2 (t + 1) (z1.1 9 ((t + 1) / 14)).toNatClampNeg (kOf p.2) (kOf z1.2 - kOf p.2) 10 c = nI (B c)
      rw [f4]; exact h1
    · show ∀ i, i < _ → ∃ y, y ≤ 560 ∧ mRgR z1.1 z1.2 (t + 1) (z1.1 9 ((t + 1) / 14)).toNatClampNeg (kOf p.2) (kOf z1.2 - kOf p.2) 15 i = nI y
      rw [f5]; exact c3
theorem y_pass (h : sY q p n d k t v) (m : Nat) (hm : t + m ≤ 560) : ∃ k2, sY (cPass m q) (mPass n d m p) n d k2 (t + m) v := by
  induction m with
  | zero => exact ⟨k, h⟩
  | succ m ih =>
    obtain ⟨k2, h2⟩ := ih (by omega)
    obtain ⟨k3, -, h3⟩ := y_half h2 (by omega)
    rw [cPass_s, mPass_s]
    exact ⟨k3, h3⟩
end S96
