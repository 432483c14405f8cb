theorem itU_at {x : Int32} {g0 : Nat → Int32} {a i : Nat} (b : Nat) : itN b (fun j g => upd g (a + j) x) g0 i = if a ≤ i ∧ i < a + b then x else g0 i := by
  induction b with
  | zero => rw [if_neg (by omega)]; rfl
  | succ b ih =>
    rw [itN_s]
    by_cases e : i = a + b
    · rw [e, upd_s, if_pos (by omega)]
    · rw [upd_n e, ih]
      by_cases e2 : a ≤ i ∧ i < a + b
      · rw [if_pos e2, if_pos (by omega)]
      · rw [if_neg e2, if_neg (by omega)]
theorem itP_U {x : Int32} {g0 : Nat → Int32} {a b : Nat} (h : a + b ≤ 200) : itN b (fun j g => rPut 200 g (nI (a + j)) x) g0 = itN b (fun j g => upd g (a + j) x) g0 := itN_congr (fun j g hj => rPut_in (by omega) (by decide)) g0
section S89
variable {q p : gRF} {n d k t v : Nat}
theorem s_call (h : sX q p n d k t v) {a : Nat} (ha : a ≤ k) : sX (cNoteR (cCallR q.1 (q.2 1)) a (k - a) (cDuty q.1 (q.2 1)), cCallF q.1 q.2 (q.2 1)) (mRgR p.1 p.2 t (p.1 9 (t / 14)).toNatClampNeg a (k - a), mRgF p.1 p.2 t (p.1 9 (t / 14)).toNatClampNeg) n d k t v := by
  obtain ⟨h, hnew, hone⟩ := h
  obtain ⟨hn, hn2, hd, hd2, hk, hk2, ht, ht2, hh, hmk⟩ := id h.ok
  obtain ⟨x, hx, ex⟩ := hh (t / 14) (by omega)
  have hD := s_duty h
  have hD6 : mCalled p.1 p.2 t (p.1 9 (t / 14)).toNatClampNeg = -1 ∨ ∃ j, j < 6 ∧ mCalled p.1 p.2 t (p.1 9 (t / 14)).toNatClampNeg = nI j := mCalled_ok (by rw [ex, nI_clamp (by omega)]) (by rw [ex, nI_clamp (by omega)]; exact hx)
  have hmg := (mG_k h.ok).1
  have hrg := (mRg_ok (h := (p.1 9 (t / 14)).toNatClampNeg) (a := a) (b := k - a) hmg).1
  have hkk := (mRg_ok (h := (p.1 9 (t / 14)).toNatClampNeg) (a := a) (b := k - a) hmg).2
  have hok : mOK (mRgR p.1 p.2 t (p.1 9 (t / 14)).toNatClampNeg a (k - a)) (mRgF p.1 p.2 t (p.1 9 (t / 14)).toNatClampNeg) n d k t := by
    have h9 : mOK (mRgR p.1 p.2 t (p.1 9 (t / 14)).toNatClampNeg a (k - a)) (mRgF p.1 p.2 t (p.1 9 (t / 14)).toNatClampNeg) n d (kOf (mRgF p.1 p.2 t (p.1 9 (t / 14)).toNatClampNeg)) t := hrg
    rw [hkk, s_kOf h] at h9
    exact h9
  unfold cNoteR cCallR cCallF mRgR mRgF mFiR
  unfold mRgR mRgF mFiR at hok
  rw [h.f1, hD]
  rw [ht] at hok ⊢
  generalize mCalled p.1 p.2 t (p.1 9 (t / 14)).toNatClampNeg = D at hok hD6 ⊢
  have hfi : ∀ j, j < k → itN (k - a) (fun j g => rPut 200 g (nI (a + j)) D) (q.1 15) j = itN (k - a) (fun j g => upd g (a + j) D) (p.1 18) j := fun j hj => by
    rw [itP_U (by omega), itU_at, itU_at, (h.inc j hj).2.2.2.2]
  have hinc : ∀ j, j < k → q.1 11 j = p.1 14 j ∧ q.1 12 j = p.1 15 j ∧ q.1 13 j = p.1 16 j ∧ q.1 14 j = p.1 17 j ∧ itN (k - a) (fun j g => rPut 200 g (nI (a + j)) D) (q.1 15) j = itN (k - a) (fun j g => upd g (a + j) D) (p.1 18) j := fun j hj => by
    obtain ⟨h1, h2, h3, h4, -⟩ := h.inc j hj
    exact ⟨h1, h2, h3, h4, hfi j hj⟩
  have hnew2 : ∀ i, k ≤ i → i < 200 → q.1 13 i = -1 ∧ itN (k - a) (fun j g => rPut 200 g (nI (a + j)) D) (q.1 15) i = -1 := fun i h1 h2 => by
    rw [itP_U (by omega), itU_at, if_neg (by omega)]
    exact hnew i h1 h2
  by_cases e : D = -1
  · simp only [if_pos e] at hok ⊢
    have h5 : upF q.2 5 (q.2 5 + nI 1) 5 = upF p.2 5 (p.2 5 + nI 1) 5 := by rw [upF_s, upF_s, h.f5]
    exact ⟨⟨hok, h.f0, h.f1, h.f2, h.f3, h.f4, h5, h.v2, h.v20, h.needs, h.whole, h.always, h.onb, h.offb, h.defs, h.chg, h.sub, h.prev, h.last, h.vals, h.tims, hinc, h.opn, h.hold, h.blot, h.rest, h.call⟩, hnew2, hone⟩
  · simp only [if_neg e] at hok ⊢
    rcases hD6 with hD6 | ⟨y, hy, ey⟩
    · exact absurd hD6 e
    · subst ey
      by_cases e2 : nI t - nI t / nI 2 * nI 2 = 0
      · simp only [if_pos e2] at hok ⊢
        rw [nI_clamp (by omega)] at hok ⊢
        have hcall : ∀ c, c < 6 → rPut 6 (q.1 20) (nI y) (rAt 6 (q.1 20) (nI y) + nI 1) c = upd (p.1 12) y (p.1 12 y + nI 1) c ∧ q.1 21 c = p.1 13 c := fun c hc => by
          rw [rAt_in hy (by decide), rPut_in hy (by decide), (h.call y hy).1]
          by_cases ec : c = y
          · subst ec; rw [upd_s, upd_s]; exact ⟨rfl, (h.call c hc).2⟩
          · rw [upd_n ec, upd_n ec]; exact h.call c hc
        exact ⟨⟨hok, h.f0, h.f1, h.f2, h.f3, h.f4, h.f5, h.v2, h.v20, h.needs, h.whole, h.always, h.onb, h.offb, h.defs, h.chg, h.sub, h.prev, h.last, h.vals, h.tims, hinc, h.opn, h.hold, h.blot, h.rest, hcall⟩, hnew2, hone⟩
      · simp only [if_neg e2] at hok ⊢
        rw [nI_clamp (by omega)] at hok ⊢
        have hcall : ∀ c, c < 6 → q.1 20 c = p.1 12 c ∧ rPut 6 (q.1 21) (nI y) (rAt 6 (q.1 21) (nI y) + nI 1) c = upd (p.1 13) y (p.1 13 y + nI 1) c := fun c hc => by
          rw [rAt_in hy (by decide), rPut_in hy (by decide), (h.call y hy).2]
          by_cases ec : c = y
          · subst ec; rw [upd_s, upd_s]; exact ⟨(h.call c hc).1, rfl⟩
          · rw [upd_n ec, upd_n ec]; exact h.call c hc
        have hrest : ∀ c, c < 6 → (upd (p.1 11) y (nI t) c = -1 ∧ rPut 6 (q.1 19) (nI y) (nI t + nI 12) c = -1) ∨ ∃ w, w ≤ t ∧ upd (p.1 11) y (nI t) c = nI w ∧ rPut 6 (q.1 19) (nI y) (nI t + nI 12) c = nI (w + 12) := fun c hc => by
          rw [rPut_in hy (by decide)]
          by_cases ec : c = y
          · subst ec; rw [upd_s, upd_s, nI_add]; exact Or.inr ⟨t, Nat.le_refl _, rfl, rfl⟩
          · rw [upd_n ec, upd_n ec]; exact h.rest c hc
        exact ⟨⟨hok, h.f0, h.f1, h.f2, h.f3, h.f4, h.f5, h.v2, h.v20, h.needs, h.whole, h.always, h.onb, h.offb, h.defs, h.chg, h.sub, h.prev, h.last, h.vals, h.tims, hinc, h.opn, h.hold, h.blot, hrest, hcall⟩, hnew2, hone⟩
theorem cStep_16 {i j : Nat} (hi : i < 4) (hj : j < 4) (hne : ¬ j = i) (q : gRF) : (cStep i q).1 16 j = q.1 16 j := by
  show cSetR q.1 q.2 (nI i) 16 j = q.1 16 j
  have h16 : ∀ (r : Nat → Nat → Int32) (g : Int32), (rPut 4 (q.1 16) (nI i) g) j = q.1 16 j := fun r g => by rw [rPut_in hi (by decide), upd_n hne]
  unfold cSetR cCloseR cOpenR
  split
  · split
    · split
      · split
        · exact h16 q.1 _
        · exact h16 q.1 _
      · rfl
    · rfl
  · split
    · rfl
    · exact h16 q.1 _
theorem s_half (h : sX q p n d k t v) (ht9 : t < 560) : ∃ k2, k ≤ k2 ∧ sX (cHalf q) (mHalf n d p) n d k2 (t + 1) v := by
  have hk0 := s_kOf h.1
  obtain ⟨hT1, hT2⟩ := s_tM h.1
  have hB := s_beg h ht9
  have key : ∀ m, m ≤ 4 → ∃ k2, k ≤ k2 ∧ sX (itN m cStep (cBeg q)) (mZ n d p m).1 n d k2 (t + 1) v ∧ (mZ n d p m).2 = anyN m (fun j => !decide ((itN m cStep (cBeg q)).1 16 j = -1)) := by
    intro m
    induction m with
    | zero => intro _; exact ⟨k, Nat.le_refl _, hB, rfl⟩
    | succ m ih =>
      intro hm
      obtain ⟨k2, h1, h2, h3⟩ := ih (by omega)
      obtain ⟨k3, h4, h5⟩ := s_step h2 (show m < 4 by omega)
      rw [mZ_s, itN_s]
      refine ⟨k3, by omega, h5, ?_⟩
      show (if (mZ n d p m).2 = true then true else if mOpen (mSt n d m (mZ n d p m).1).1 (kOf (mSt n d m (mZ n d p m).1).2) (nI m) = -1 then false else true) = _
      rw [s_kOf h5.1, ← h5.1.opn m (by omega), h3]
      have e1 : anyN m (fun j => !decide ((itN m cStep (cBeg q)).1 16 j = -1)) = anyN m (fun j => !decide ((cStep m (itN m cStep (cBeg q))).1 16 j = -1)) := anyN_congr (fun j hj => by rw [cStep_16 (by omega) (by omega) (by omega)])
      rw [e1]
      show _ = (anyN m (fun j => !decide ((cStep m (itN m cStep (cBeg q))).1 16 j = -1)) || !decide ((cStep m (itN m cStep (cBeg q))).1 16 m = -1))
      cases anyN m (fun j => !decide ((cStep m (itN m cStep (cBeg q))).1 16 j = -1)) with
      | true => rfl
      | false =>
        by_cases e : (cStep m (itN m cStep (cBeg q))).1 16 m = -1
        · rw [if_neg (by decide), if_pos e, decide_eq_true e]; rfl
        · rw [if_neg (by decide), if_neg e, decide_eq_false e]; rfl
  obtain ⟨k2, h1, h2, h3⟩ := key 4 (Nat.le_refl _)
  rw [cHalf_eq]
  unfold mHalf
  rw [hT2, hk0]
  have hcI : cInc q.2 = k := by
    obtain ⟨-, -, -, -, -, hk2, -⟩ := id h.1.ok
    show (q.2 4).toNatClampNeg = k
    rw [h.1.f4, nI_clamp (by omega)]
  generalize itN 4 cStep (cBeg q) = u at h2 h3 ⊢
  generalize mZ n d p 4 = z at h2 h3 ⊢
  obtain ⟨z1, z2⟩ := z
  simp only at h2 h3 ⊢
  have hcI2 : cInc u.2 = k2 := by
    obtain ⟨-, -, -, -, -, hk2, -⟩ := id h2.1.ok
    show (u.2 4).toNatClampNeg = k2
    rw [h2.1.f4, nI_clamp (by omega)]
  have hany : cAnyOpen u.1 4 = z2 := by
    rw [h3]
    exact anyN_congr (fun j hj => by rw [rAt_in hj (by decide)])
  rw [hcI, hcI2, s_kOf h2.1]
  refine ⟨k2, h1, ?_⟩
  unfold cCIR cCIF
  rw [hany]
  cases z2 with
  | false =>
    simp only [Bool.false_eq_true, if_false]
    exact h2
  | true =>
    simp only [if_true]
    exact s_call h2 h1
theorem s_pass (h : sX q p n d k t v) (m : Nat) (hm : t + m ≤ 560) : ∃ k2, sX (cPass m q) (mPass n d m p) n d k2 (t + m) v := by
  induction m with
  | zero => exact ⟨k, h⟩
  | succ m ih =>
    obtain ⟨k2, h2⟩ := ih (by omega)
    obtain ⟨k3, -, h3⟩ := s_half h2 (by omega)
    rw [cPass_s, mPass_s]
    exact ⟨k3, h3⟩
end S89
