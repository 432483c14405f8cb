theorem lastN_st {n : Nat} {P : Nat → Bool} (h : P n = true) : lastN (n + 1) P = nI n := by simp [lastN, h]
theorem lastN_sf {n : Nat} {P : Nat → Bool} (h : P n = false) : lastN (n + 1) P = lastN n P := by simp [lastN, h]
section S91
variable {q p : gRF} {n d k t v : Nat}
theorem sX.thr (h : sX q p n d k t v) (y : Int32) : sX q (p.1, upF p.2 0 y) n d k t v := h
theorem s_add (h : sX q p n d k t v) (hn9 : n < 200) {m s y : Nat} (hm : m < 6) (hs : s < 12) (hy1 : s < 8 → y < 5) (hy2 : ¬ s < 8 → y < v) : sX (cAddR q.1 q.2 (nI m) (q.2 1) (nI s) (nI y), upF q.2 3 (q.2 3 + nI 1)) (mMakeR p.1 p.2 n (nI m) (soS s) (taS s) (nI y), upF (upF p.2 0 (nI 0)) 4 (p.2 4 + nI 1)) (n + 1) d k t v := by
  obtain ⟨h, hnew, hone⟩ := h
  obtain ⟨hn, hn2, hd, hd2, hk, hk2, ht, ht2, hh, hmk⟩ := id h.ok
  have eC : cAddR q.1 q.2 (nI m) (q.2 1) (nI s) (nI y) = upR (upR (upR (upR (upR (upR q.1 5 (upd (q.1 5) n (nI m))) 6 (upd (q.1 6) n (nI t))) 7 (upd (q.1 7) n (nI s))) 8 (upd (q.1 8) n (nI y))) 9 (upd (q.1 9) n (q.1 10 s))) 10 (upd (q.1 10) s (nI n)) := by
    unfold cAddR
    rw [h.f3, h.f1, rPut_in hn9 (by decide), rPut_in hn9 (by decide), rPut_in hn9 (by decide), rPut_in hn9 (by decide), rPut_in hn9 (by decide), rAt_in hs (by decide), rPut_in hs (by decide)]
  have eM : mMakeR p.1 p.2 n (nI m) (soS s) (taS s) (nI y) = upR (upR (upR (upR (upR p.1 4 (upd (p.1 4) n (nI m))) 5 (upd (p.1 5) n (soS s))) 6 (upd (p.1 6) n (taS s))) 7 (upd (p.1 7) n (nI y))) 8 (upd (p.1 8) n (nI t)) := by
    unfold mMakeR
    rw [ht]
  rw [eC, eM, h.f3, hn, nI_add]
  have hmk2 : ∀ c, c < n + 1 → ∃ a, a < 6 ∧ upd (p.1 4) n (nI m) c = nI a := fun c hc => by
    by_cases e : c = n
    · subst e; rw [upd_s]; exact ⟨m, hm, rfl⟩
    · rw [upd_n e]; exact hmk c (by omega)
  have hchg : ∀ c, c < n + 1 → upd (q.1 5) n (nI m) c = upd (p.1 4) n (nI m) c ∧ upd (q.1 6) n (nI t) c = upd (p.1 8) n (nI t) c ∧ upd (q.1 8) n (nI y) c = upd (p.1 7) n (nI y) c := fun c hc => by
    by_cases e : c = n
    · subst e; simp only [upd_s, and_self]
    · simp only [upd_n e]; exact h.chg c (by omega)
  have hsub : ∀ c, c < n + 1 → ∃ s2, s2 < 12 ∧ upd (q.1 7) n (nI s) c = nI s2 ∧ ((s2 < 8 ∧ upd (p.1 5) n (soS s) c = nI 0 ∧ upd (p.1 6) n (taS s) c = nI s2) ∨ (8 ≤ s2 ∧ upd (p.1 5) n (soS s) c = nI 1 ∧ upd (p.1 6) n (taS s) c = nI (s2 - 8))) := fun c hc => by
    by_cases e : c = n
    · subst e
      simp only [upd_s]
      refine ⟨s, hs, rfl, ?_⟩
      by_cases e8 : s < 8
      · exact Or.inl ⟨e8, if_pos e8, if_pos e8⟩
      · exact Or.inr ⟨by omega, if_neg e8, if_neg e8⟩
    · simp only [upd_n e]; exact h.sub c (by omega)
  have hprev : ∀ c, c < n + 1 → upd (q.1 9) n (q.1 10 s) c = lastN c (fun j => decide (upd (q.1 7) n (nI s) j = upd (q.1 7) n (nI s) c)) := fun c hc => by
    by_cases e : c = n
    · subst e
      rw [upd_s, upd_s, h.last s hs]
      exact lastN_congr (fun j hj => by rw [upd_n (show ¬ j = c by omega)])
    · rw [upd_n e, upd_n e, h.prev c (by omega)]
      exact lastN_congr (fun j hj => by rw [upd_n (show ¬ j = n by omega)])
  have hlast : ∀ s2, s2 < 12 → upd (q.1 10) s (nI n) s2 = lastN (n + 1) (fun j => decide (upd (q.1 7) n (nI s) j = nI s2)) := fun s2 hs2 => by
    by_cases e : s2 = s
    · subst e
      rw [upd_s]
      exact (lastN_st (by rw [upd_s]; exact decide_eq_true rfl)).symm
    · rw [upd_n e, lastN_sf (by rw [upd_s]; exact decide_eq_false (fun z => e ((nI_iff (by omega) (by omega)).mp z).symm)), h.last s2 hs2]
      exact lastN_congr (fun j hj => by rw [upd_n (show ¬ j = n by omega)])
  have hvals : ∀ c, c < n + 1 → (upd (p.1 5) n (soS s) c = nI 0 ∧ ∃ y2, y2 < 5 ∧ upd (p.1 7) n (nI y) c = nI y2) ∨ (upd (p.1 5) n (soS s) c = nI 1 ∧ ∃ y2, y2 < v ∧ upd (p.1 7) n (nI y) c = nI y2) := fun c hc => by
    by_cases e : c = n
    · subst e
      simp only [upd_s]
      by_cases e8 : s < 8
      · exact Or.inl ⟨if_pos e8, y, hy1 e8, rfl⟩
      · exact Or.inr ⟨if_neg e8, y, hy2 e8, rfl⟩
    · simp only [upd_n e]; exact h.vals c (by omega)
  have htims : ∀ c, c < n + 1 → ∃ y2, y2 ≤ t ∧ upd (p.1 8) n (nI t) c = nI y2 := fun c hc => by
    by_cases e : c = n
    · subst e; rw [upd_s]; exact ⟨t, Nat.le_refl _, rfl⟩
    · rw [upd_n e]; exact h.tims c (by omega)
  have hok : mOK (upR (upR (upR (upR (upR p.1 4 (upd (p.1 4) n (nI m))) 5 (upd (p.1 5) n (soS s))) 6 (upd (p.1 6) n (taS s))) 7 (upd (p.1 7) n (nI y))) 8 (upd (p.1 8) n (nI t))) (upF (upF p.2 0 (nI 0)) 4 (nI (n + 1))) (n + 1) d k t := ⟨rfl, by omega, hd, hd2, hk, hk2, ht, ht2, hh, hmk2⟩
  exact ⟨⟨hok, h.f0, h.f1, h.f2, rfl, h.f4, h.f5, h.v2, h.v20, h.needs, h.whole, h.always, h.onb, h.offb, h.defs, hchg, hsub, hprev, hlast, hvals, htims, h.inc, h.opn, h.hold, h.blot, h.rest, h.call⟩, hnew, hone⟩
theorem s_valB (h : sI q p n d k t v) (s : Nat) (wo : Int32) : ∃ y, (s < 8 → y < 5) ∧ (¬ s < 8 → y < v) ∧ mVal p.1 n (soS s) (taS s) wo = nI y := by
  obtain ⟨-, hn2, -⟩ := id h.ok
  have hv := h.v20.1
  rcases mVal_ex (r := p.1) (so := soS s) (ta := taS s) (wo := wo) hn2 with e | ⟨j, h1, h2, e⟩
  · exact ⟨0, fun _ => by omega, fun _ => by omega, e⟩
  · have e5 := (mIs_t h2).1
    rcases h.vals j h1 with ⟨a, y, hy, e2⟩ | ⟨a, y, hy, e2⟩
    · refine ⟨y, fun _ => hy, fun e8 => ?_, e.trans e2⟩
      rw [a, show soS s = nI 1 from if_neg e8] at e5
      exact absurd e5 (by decide)
    · refine ⟨y, fun e8 => ?_, fun _ => hy, e.trans e2⟩
      rw [a, show soS s = nI 0 from if_pos e8] at e5
      exact absurd e5 (by decide)
end S91
