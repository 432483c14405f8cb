theorem mOp_iff {r : Nat → Nat → Int32} {x : Int32} {i : Nat} : mOp r x i = true ↔ r 14 i = x ∧ r 16 i = -1 := by
  unfold mOp
  by_cases h1 : r 14 i = x
  · rw [if_pos h1]
    by_cases h2 : r 16 i = -1
    · rw [if_pos h2]; exact ⟨fun _ => ⟨h1, h2⟩, fun _ => rfl⟩
    · rw [if_neg h2]; exact ⟨fun z => (by cases z), fun z => absurd z.2 h2⟩
  · rw [if_neg h1]; exact ⟨fun z => (by cases z), fun z => absurd z.1 h1⟩
theorem mOp_eq {r r2 : Nat → Nat → Int32} {x x2 : Int32} {i i2 : Nat} (h : (r 14 i = x ∧ r 16 i = -1) ↔ (r2 14 i2 = x2 ∧ r2 16 i2 = -1)) : mOp r x i = mOp r2 x2 i2 := Bool.eq_iff_iff.mpr (mOp_iff.trans (h.trans mOp_iff.symm))
theorem lastN_m1 {n : Nat} {P : Nat → Bool} (h : lastN n P = -1) (hn : n < 2 ^ 31) {j : Nat} (hj : j < n) : P j = false := by
  induction n with
  | zero => omega
  | succ n ih =>
    by_cases hp : P n = true
    · have : lastN (n + 1) P = nI n := by simp [lastN, hp]
      rw [this] at h
      exact absurd h (nI_ne_m1 (by omega))
    · have e : lastN (n + 1) P = lastN n P := by simp [lastN, hp]
      rw [e] at h
      by_cases e2 : j = n
      · subst e2; exact Bool.eq_false_iff.mpr hp
      · exact ih h (by omega) (by omega)
theorem upF_s (f : Nat → Int32) (k : Nat) (x : Int32) : upF f k x k = x := by
  show (bif Nat.beq k k then x else f k) = x
  rw [Nat.beq_refl]
  rfl
def oQ0 (q : gRF) (i t k : Nat) (L : Int32) : Nat → Nat → Int32 := upR (upR (upR (upR q.1 11 (upd (q.1 11) k (nI i))) 12 (upd (q.1 12) k (nI t))) 14 (upd (q.1 14) k L)) 16 (upd (q.1 16) i (nI k))
def oQ (q : gRF) (i t k : Nat) (L : Int32) (B : Nat → Int32) : gRF := (upR (oQ0 q i t k L) 18 B, upF q.2 4 (nI (k + 1)))
def oP0 (p : gRF) (i t k : Nat) (L : Int32) : Nat → Nat → Int32 := upR (upR (upR (upR (upR p.1 14 (upd (p.1 14) k (nI i))) 15 (upd (p.1 15) k (nI t))) 16 (upd (p.1 16) k (-1))) 17 (upd (p.1 17) k L)) 18 (upd (p.1 18) k (-1))
def oP (p : gRF) (i t k : Nat) (L : Int32) (B : Nat → Int32) : gRF := (upR (oP0 p i t k L) 10 B, upF p.2 6 (nI (k + 1)))
section S88
variable {q p : gRF} {n d k t v : Nat}
theorem s_open (h : sX q p n d k t v) {i : Nat} (hi : i < 4) (hk9 : k < 200) (ho : mOpen p.1 k (nI i) = -1) {L : Int32} {B B2 : Nat → Int32} (hB : ∀ c, c < 6 → B c = B2 c ∧ ∃ y, y ≤ k + 1 ∧ B2 c = nI y) : sX (oQ q i t k L B) (oP p i t k L B2) n d (k + 1) t v := by
  obtain ⟨h, hnew, hone⟩ := h
  obtain ⟨hn, hn2, hd, hd2, hk, hk2, ht, ht2, hh, hmk⟩ := id h.ok
  have hok : mOK (oP p i t k L B2).1 (oP p i t k L B2).2 n d (k + 1) t := ⟨hn, hn2, hd, hd2, rfl, by omega, ht, ht2, hh, hmk⟩
  have hinc : ∀ j, j < k + 1 → upd (q.1 11) k (nI i) j = upd (p.1 14) k (nI i) j ∧ upd (q.1 12) k (nI t) j = upd (p.1 15) k (nI t) j ∧ q.1 13 j = upd (p.1 16) k (-1) j ∧ upd (q.1 14) k L j = upd (p.1 17) k L j ∧ q.1 15 j = upd (p.1 18) k (-1) j := fun j hj => by
    by_cases e : j = k
    · subst e
      obtain ⟨a, b⟩ := hnew j (Nat.le_refl _) hk9
      simp only [upd_s, true_and]
      exact ⟨a, b⟩
    · simp only [upd_n e]
      exact h.inc j (by omega)
  have hopn : ∀ g, g < 4 → upd (q.1 16) i (nI k) g = mOpen (oP p i t k L B2).1 (k + 1) (nI g) := fun g hg => by
    have hP : ∀ j, j < k → mOp (oP p i t k L B2).1 (nI g) j = mOp p.1 (nI g) j := fun j hj => mOp_eq (by
      show (upd (p.1 14) k (nI i) j = nI g ∧ upd (p.1 16) k (-1) j = -1) ↔ _
      rw [upd_n (by omega), upd_n (by omega)])
    by_cases e : g = i
    · subst e
      rw [upd_s]
      refine (lastN_eq (by omega) ?_ (fun j a b => by omega)).symm
      exact mOp_iff.mpr ⟨upd_s _ _ _, upd_s _ _ _⟩
    · rw [upd_n e]
      have e2 : mOp (oP p i t k L B2).1 (nI g) k = false := by
        apply Bool.eq_false_iff.mpr
        intro z
        have z1 : upd (p.1 14) k (nI i) k = nI g := (mOp_iff.mp z).1
        rw [upd_s] at z1
        exact e ((nI_iff (by omega) (by omega)).mp z1).symm
      have e3 : mOpen (oP p i t k L B2).1 (k + 1) (nI g) = mOpen p.1 k (nI g) := by
        show lastN (k + 1) _ = lastN k _
        rw [show lastN (k + 1) (mOp (oP p i t k L B2).1 (nI g)) = lastN k (mOp (oP p i t k L B2).1 (nI g)) from by simp [lastN, e2]]
        exact lastN_congr hP
      rw [e3]
      exact h.opn g hg
  have hnew2 : sX_new (oQ q i t k L B) (k + 1) := fun j a b => hnew j (by omega) b
  have hone2 : sX_one (oP p i t k L B2) (k + 1) := fun a b ha hb e1 e2 e3 => by
    have e1 : upd (p.1 14) k (nI i) a = upd (p.1 14) k (nI i) b := e1
    have e2 : upd (p.1 16) k (-1) a = -1 := e2
    have e3 : upd (p.1 16) k (-1) b = -1 := e3
    have hno : ∀ j, j < k → p.1 14 j = nI i → p.1 16 j = -1 → False := fun j hj h1 h2 => by
      have := lastN_m1 ho (by omega) hj
      rw [mOp_iff.mpr ⟨h1, h2⟩] at this
      cases this
    by_cases ea : a = k
    · by_cases eb : b = k
      · rw [ea, eb]
      · exfalso
        rw [ea, upd_s, upd_n eb] at e1
        rw [upd_n eb] at e3
        exact hno b (by omega) e1.symm e3
    · by_cases eb : b = k
      · exfalso
        rw [eb, upd_s, upd_n ea] at e1
        rw [upd_n ea] at e2
        exact hno a (by omega) e1 e2
      · rw [upd_n ea, upd_n eb] at e1
        rw [upd_n ea] at e2
        rw [upd_n eb] at e3
        exact hone a b (by omega) (by omega) e1 e2 e3
  exact ⟨⟨hok, h.f0, h.f1, h.f2, h.f3, rfl, h.f5, h.v2, h.v20, h.needs, h.whole, h.always, h.onb, h.offb, h.defs, h.chg, h.sub, h.prev, h.last, h.vals, h.tims, hinc, hopn, h.hold, hB, h.rest, h.call⟩, hnew2, hone2⟩
def zQ (q : gRF) (i t j : Nat) : gRF := (upR (upR q.1 13 (upd (q.1 13) j (nI t))) 16 (upd (q.1 16) i (-1)), q.2)
def zP (p : gRF) (t j : Nat) : gRF := (upR p.1 16 (upd (p.1 16) j (nI t)), p.2)
theorem s_close (h : sX q p n d k t v) {i j : Nat} (hi : i < 4) (hj : j < k) (ho : mOpen p.1 k (nI i) = nI j) : sX (zQ q i t j) (zP p t j) n d k t v := by
  obtain ⟨h, hnew, hone⟩ := h
  obtain ⟨hn, hn2, hd, hd2, hk, hk2, ht, ht2, hh, hmk⟩ := id h.ok
  have hj2 : p.1 14 j = nI i ∧ p.1 16 j = -1 := by
    obtain ⟨j2, a, b, c⟩ := lastN_ex (n := k) (P := mOp p.1 (nI i)) (by show ¬ mOpen p.1 k (nI i) = -1; rw [ho]; exact nI_ne_m1 (by omega))
    have b : mOpen p.1 k (nI i) = nI j2 := b
    have := (nI_iff (by omega) (by omega)).mp (ho.symm.trans b)
    subst this
    exact mOp_iff.mp c
  have hok : mOK (zP p t j).1 (zP p t j).2 n d k t := ⟨hn, hn2, hd, hd2, hk, hk2, ht, ht2, hh, hmk⟩
  have hinc : ∀ a, a < k → q.1 11 a = p.1 14 a ∧ q.1 12 a = p.1 15 a ∧ upd (q.1 13) j (nI t) a = upd (p.1 16) j (nI t) a ∧ q.1 14 a = p.1 17 a ∧ q.1 15 a = p.1 18 a := fun a ha => by
    obtain ⟨h1, h2, h3, h4, h5⟩ := h.inc a ha
    by_cases e : a = j
    · subst e; rw [upd_s, upd_s]; exact ⟨h1, h2, rfl, h4, h5⟩
    · rw [upd_n e, upd_n e]; exact ⟨h1, h2, h3, h4, h5⟩
  have h16 : ∀ a, upd (p.1 16) j (nI t) a = -1 → ¬ a = j ∧ p.1 16 a = -1 := fun a ha => by
    by_cases e : a = j
    · rw [e, upd_s] at ha; exact absurd ha (nI_ne_m1 (by omega))
    · rw [upd_n e] at ha; exact ⟨e, ha⟩
  have hopn : ∀ g, g < 4 → upd (q.1 16) i (-1) g = mOpen (zP p t j).1 k (nI g) := fun g hg => by
    by_cases e : g = i
    · subst e
      rw [upd_s]
      refine (lastN_none (fun a ha => ?_)).symm
      apply Bool.eq_false_iff.mpr
      intro z
      obtain ⟨z1, z2⟩ := mOp_iff.mp z
      obtain ⟨z3, z4⟩ := h16 a z2
      exact z3 (hone a j ha hj (z1.trans hj2.1.symm) z4 hj2.2)
    · rw [upd_n e]
      refine (h.opn g hg).trans (lastN_congr (fun a ha => mOp_eq ?_))
      constructor
      · rintro ⟨z1, z2⟩
        refine ⟨z1, ?_⟩
        have : ¬ a = j := fun z => by
          rw [z, hj2.1] at z1
          exact e ((nI_iff (by omega) (by omega)).mp z1).symm
        show upd (p.1 16) j (nI t) a = -1
        rw [upd_n this]
        exact z2
      · rintro ⟨z1, z2⟩
        exact ⟨z1, (h16 a z2).2⟩
  have hnew2 : sX_new (zQ q i t j) k := fun a ha hb => by
    show upd (q.1 13) j (nI t) a = -1 ∧ q.1 15 a = -1
    rw [upd_n (by omega)]
    exact hnew a ha hb
  have hone2 : sX_one (zP p t j) k := fun a b ha hb e1 e2 e3 => hone a b ha hb e1 (h16 a e2).2 (h16 b e3).2
  exact ⟨⟨hok, h.f0, h.f1, h.f2, h.f3, h.f4, h.f5, h.v2, h.v20, h.needs, h.whole, h.always, h.onb, h.offb, h.defs, h.chg, h.sub, h.prev, h.last, h.vals, h.tims, hinc, hopn, h.hold, h.blot, h.rest, h.call⟩, hnew2, hone2⟩
theorem s_kOf (h : sI q p n d k t v) : kOf p.2 = k := (mG_k h.ok).2
theorem s_step (h : sX q p n d k t v) {i : Nat} (hi : i < 4) : ∃ k2, k ≤ k2 ∧ sX (cStep i q) (mSt n d i p) n d k2 t v := by
  have hI := h.1
  obtain ⟨hn, hn2, hd, hd2, hk, hk2, ht, ht2, hh, hmk⟩ := id hI.ok
  have hk0 := s_kOf hI
  have eo : rAt 4 (q.1 16) (nI i) = mOpen p.1 k (nI i) := by rw [rAt_in hi (by decide)]; exact hI.opn i hi
  unfold cStep mSt cSetR cSetF mStR mStF
  rw [hk0, s_bad hI hi, eo]
  cases hb : mBad p.1 n d (nI i) (-1) with
  | false =>
    simp only [Bool.false_eq_true, if_false]
    unfold cCloseR
    rw [eo]
    by_cases ho : mOpen p.1 k (nI i) = -1
    · simp only [if_pos ho]
      exact ⟨k, Nat.le_refl _, h⟩
    · simp only [if_neg ho]
      obtain ⟨j, hj, e, -⟩ := lastN_ex ho
      have e : mOpen p.1 k (nI i) = nI j := e
      refine ⟨k, Nat.le_refl _, ?_⟩
      rw [e, nI_clamp (by omega), rPut_in (show j < 200 by omega) (by decide), rPut_in hi (by decide), hI.f1, ht]
      exact s_close h hi hj e
  | true =>
    simp only [if_true]
    by_cases ho : mOpen p.1 k (nI i) = -1
    · simp only [if_pos ho]
      rw [hI.f4, hk]
      by_cases hk9 : k < 200
      · have a1 : nI k < nI 200 := (nI_ltI (by omega) (by decide)).mpr hk9
        have a2 : ¬ nI 200 ≤ nI k := fun z => by
          have := (nI_leI (a := 200) (b := k) (by decide) (by omega)).mp z
          omega
        simp only [if_pos a1, if_neg a2]
        refine ⟨k + 1, by omega, ?_⟩
        rw [s_trace hI hi, nI_add]
        have eOp : ∀ L, cOpenR q.1 q.2 (nI i) (q.2 1) L = oQ0 q i t k L := fun L => by
          unfold cOpenR oQ0
          rw [hI.f4, hI.f1, rPut_in hk9 (by decide), rPut_in hk9 (by decide), rPut_in hk9 (by decide), rPut_in hi (by decide)]
        have eM : mOpR p.1 p.2 n d k (nI i) = oP0 p i t k (mTrace p.1 n d (nI i)) := by
          unfold mOpR oP0
          rw [ht]
        unfold mOpenR
        rw [eOp, eM]
        by_cases hT : mTrace p.1 n d (nI i) = -1
        · rw [if_pos hT, if_pos hT]
          have e1 : upR (oQ0 q i t k (mTrace p.1 n d (nI i))) 18 (q.1 18) = oQ0 q i t k (mTrace p.1 n d (nI i)) := upR_id (oQ0 q i t k (mTrace p.1 n d (nI i))) 18
          have e2 : upR (oP0 p i t k (mTrace p.1 n d (nI i))) 10 (p.1 10) = oP0 p i t k (mTrace p.1 n d (nI i)) := upR_id (oP0 p i t k (mTrace p.1 n d (nI i))) 10
          have h9 := s_open h hi hk9 ho (L := mTrace p.1 n d (nI i)) (B := q.1 18) (B2 := p.1 10) (fun c hc => ⟨(hI.blot c hc).1, by
            obtain ⟨-, y, hy, e⟩ := hI.blot c hc
            exact ⟨y, by omega, e⟩⟩)
          unfold oQ oP at h9
          rw [e1, e2] at h9
          exact h9
        · rw [if_neg hT, if_neg hT]
          obtain ⟨j, hj, e⟩ := mTrace_in hT
          obtain ⟨m, hm, em⟩ := hmk j hj
          obtain ⟨eb, y, hy, ey⟩ := hI.blot m hm
          have e5 : rAt 200 (q.1 5) (mTrace p.1 n d (nI i)) = nI m := by
            rw [e, rAt_in (by omega) (by decide), (hI.chg j hj).1, em]
          have e6 : mMk p.1 (mTrace p.1 n d (nI i)) = m := by
            unfold mMk
            rw [e, nI_clamp (by omega), em, nI_clamp (by omega)]
          rw [e5, e6, rAt_in hm (by decide), rPut_in hm (by decide), eb]
          refine s_open h hi hk9 ho (fun c hc => ?_)
          by_cases ec : c = m
          · subst ec
            rw [upd_s, upd_s, ey, nI_add]
            exact ⟨rfl, y + 1, by omega, rfl⟩
          · rw [upd_n ec, upd_n ec]
            obtain ⟨a, y2, hy2, b⟩ := hI.blot c hc
            exact ⟨a, y2, by omega, b⟩
      · have a1 : ¬ nI k < nI 200 := fun z => hk9 ((nI_ltI (by omega) (by decide)).mp z)
        have a2 : nI 200 ≤ nI k := nI_le (by omega) (by omega)
        simp only [if_neg a1, if_pos a2]
        exact ⟨k, Nat.le_refl _, h⟩
    · simp only [if_neg ho]
      exact ⟨k, Nat.le_refl _, h⟩
end S88
