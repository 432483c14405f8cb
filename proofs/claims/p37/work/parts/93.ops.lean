theorem wb_ex {b c : Nat} (hb : b < 256) (hc : c < 8) (s : Bool) : ∃ b2, b2 < 256 ∧ cWithBit (nI b) (nI c) s = nI b2 := by
  cases s with
  | true =>
    have g : ∀ b, b < 256 → ∀ c, c < 8 → b ||| 2 ^ c < 256 ∧ cWithBit (nI b) (nI c) true = nI (b ||| 2 ^ c) := by decide +kernel
    exact ⟨_, g b hb c hc⟩
  | false =>
    have g : ∀ b, b < 256 → ∀ c, c < 8 → b &&& (255 - 2 ^ c) < 256 ∧ cWithBit (nI b) (nI c) false = nI (b &&& (255 - 2 ^ c)) := by decide +kernel
    exact ⟨_, g b hb c hc⟩
theorem bits_eq {b : Nat} (hb : b < 256) : cBitCount (nI b) = mBits (nI b) := by
  have g : ∀ b, b < 256 → cBitCount (nI b) = mBits (nI b) := by decide +kernel
  exact g b hb
theorem exU {d : Nat} {R R2 : Nat → Prop} (h : ∀ i, i < d → (R2 i ↔ R i)) : (∃ i, i < d + 1 ∧ R2 i) ↔ (∃ i, i < d ∧ R i) ∨ R2 d := by
  constructor
  · rintro ⟨i, a, b⟩
    by_cases e : i = d
    · subst e; exact Or.inr b
    · exact Or.inl ⟨i, by omega, (h i (by omega)).mp b⟩
  · rintro (⟨i, a, b⟩ | b)
    · exact ⟨i, by omega, (h i a).mpr b⟩
    · exact ⟨d, by omega, b⟩
section S93
variable {q p : gRF} {n d k t v : Nat}
theorem sim_build (h : sX q p n d k t v) : simOK q (q.1, upF q.2 0 (q.2 0 + nI 1)) (p.1, if p.2 2 = nI 20 then upF p.2 0 (nI 1) else upF (upF p.2 0 (nI 0)) 2 (p.2 2 + nI 1)) (kBuild q.2) (gCode (nI 0) (nI 0) (nI 1) (kBuild q.2)) (q.2 0 + nI 1 - nI 1) (if p.2 2 = nI 20 then nI 0 else p.2 2 + nI 1 - nI 1) := by
  have h0 := h.1.f0
  have h2 := h.1.v2
  obtain ⟨hv1, hv2⟩ := h.1.v20
  unfold kBuild
  rw [h0, h2]
  by_cases e : v = 20
  · rw [if_pos (show nI v = nI 20 by rw [e]), if_pos (show nI v = nI 20 by rw [e]), if_neg (fun z => by have := (nI_ltI (by omega) (by decide)).mp z; omega)]
    exact sim_f h rfl (by decide) (c := 1) (by decide) (by decide) rfl rfl
  · have e1 : ¬ nI v = nI 20 := fun z => e ((nI_iff (by omega) (by decide)).mp z)
    rw [if_neg e1, if_neg e1, if_pos ((nI_ltI (by omega) (by decide)).mpr (by omega)), nI_add]
    refine sim_o rfl rfl rfl rfl ⟨n, d, k, t, v + 1, ?_⟩
    obtain ⟨h, hnew, hone⟩ := h
    have hdefs : ∀ i, i < d → (∃ u, u < v + 1 ∧ p.1 1 i = nI u) ∧ (p.1 2 i = -1 ∨ ∃ c, c < 8 ∧ p.1 2 i = nI c) ∧ (p.1 3 i = nI 0 ∨ p.1 3 i = nI 1) := fun i hi => by
      obtain ⟨⟨u, a, b⟩, c⟩ := h.defs i hi
      exact ⟨⟨u, by omega, b⟩, c⟩
    have hvals : ∀ c, c < n → (p.1 5 c = nI 0 ∧ ∃ y, y < 5 ∧ p.1 7 c = nI y) ∨ (p.1 5 c = nI 1 ∧ ∃ y, y < v + 1 ∧ p.1 7 c = nI y) := fun c hc => by
      rcases h.vals c hc with a | ⟨a, y, b, c⟩
      · exact Or.inl a
      · exact Or.inr ⟨a, y, by omega, c⟩
    have hv20 : 1 ≤ v + 1 ∧ v + 1 ≤ 20 := ⟨by omega, by omega⟩
    exact ⟨⟨h.ok, rfl, h.f1, h.f2, h.f3, h.f4, h.f5, rfl, hv20, h.needs, h.whole, h.always, h.onb, h.offb, hdefs, h.chg, h.sub, h.prev, h.last, hvals, h.tims, h.inc, h.opn, h.hold, h.blot, h.rest, h.call⟩, hnew, hone⟩
theorem s_def (h : sX q p n d k t v) (hd9 : d < 24) {u1 : Nat} {x2 : Int32} {x3 : Bool} (hu : u1 < v) (hx : x2 = -1 ∨ ∃ c, c < 8 ∧ x2 = nI c) : sX (cDefR q.1 (nI u1) x2 x3, upF q.2 2 (q.2 2 + nI 1)) (mDefR p.1 d (nI u1) x2 x3, upF (upF p.2 0 (nI 0)) 3 (p.2 3 + nI 1)) n (d + 1) k t v := by
  obtain ⟨h, hnew, hone⟩ := h
  obtain ⟨hn, hn2, hd, hd2, hk, hk2, ht, ht2, hh, hmk⟩ := id h.ok
  have hv := h.v20.2
  rw [h.f2, hd, nI_add]
  have hok : mOK (mDefR p.1 d (nI u1) x2 x3) (upF (upF p.2 0 (nI 0)) 3 (nI (d + 1))) n (d + 1) k t := ⟨hn, hn2, rfl, by omega, hk, hk2, ht, ht2, hh, hmk⟩
  have hdefs : ∀ i, i < d + 1 → (∃ u, u < v ∧ upd (p.1 1) d (nI u1) i = nI u) ∧ (upd (p.1 2) d x2 i = -1 ∨ ∃ c, c < 8 ∧ upd (p.1 2) d x2 i = nI c) ∧ (upd (p.1 3) d (b2i x3) i = nI 0 ∨ upd (p.1 3) d (b2i x3) i = nI 1) := fun i hi => by
    by_cases e : i = d
    · subst e
      simp only [upd_s]
      exact ⟨⟨u1, hu, rfl⟩, hx, by cases x3; exact Or.inl rfl; exact Or.inr rfl⟩
    · simp only [upd_n e]; exact h.defs i (by omega)
  have xA : ∀ u, (∃ i, i < d + 1 ∧ upd (p.1 1) d (nI u1) i = nI u ∧ upd (p.1 2) d x2 i = -1) ↔ (∃ i, i < d ∧ p.1 1 i = nI u ∧ p.1 2 i = -1) ∨ (nI u1 = nI u ∧ x2 = -1) := fun u => by
    rw [exU (R := fun i => p.1 1 i = nI u ∧ p.1 2 i = -1) (fun i hi => by rw [upd_n (show ¬ i = d by omega), upd_n (show ¬ i = d by omega)]), upd_s, upd_s]
  have xB : ∀ u c o, (∃ i, i < d + 1 ∧ upd (p.1 1) d (nI u1) i = nI u ∧ upd (p.1 2) d x2 i = nI c ∧ upd (p.1 3) d (b2i x3) i = nI o) ↔ (∃ i, i < d ∧ p.1 1 i = nI u ∧ p.1 2 i = nI c ∧ p.1 3 i = nI o) ∨ (nI u1 = nI u ∧ x2 = nI c ∧ b2i x3 = nI o) := fun u c o => by
    rw [exU (R := fun i => p.1 1 i = nI u ∧ p.1 2 i = nI c ∧ p.1 3 i = nI o) (fun i hi => by rw [upd_n (show ¬ i = d by omega), upd_n (show ¬ i = d by omega), upd_n (show ¬ i = d by omega)]), upd_s, upd_s, upd_s]
  have uu : ∀ u, u < 20 → (nI u1 = nI u ↔ u = u1) := fun u h9 => (nI_iff (by omega) (by omega)).trans ⟨fun z => z.symm, fun z => z.symm⟩
  have m1c : ∀ c, c < 8 → ¬ nI c = -1 := fun c hc => nI_ne_m1 (by omega)
  have m1d : ∀ c, c < 8 → ¬ (-1 : Int32) = nI c := fun c hc z => m1c c hc z.symm
  have b01 : b2i true = nI 1 ∧ ¬ b2i true = nI 0 ∧ b2i false = nI 0 ∧ ¬ b2i false = nI 1 := ⟨rfl, by decide, rfl, by decide⟩
  rcases hx with e2 | ⟨c1, hc1, e2⟩
  · subst e2
    have eC : cDefR q.1 (nI u1) (-1) x3 = upR q.1 2 (upd (q.1 2) u1 (nI 1)) := by
      unfold cDefR
      rw [if_pos rfl, rPut_in (show u1 < 20 by omega) (by decide)]
    rw [eC]
    have hal : ∀ u, u < 20 → (upd (q.1 2) u1 (nI 1) u = nI 0 ∨ upd (q.1 2) u1 (nI 1) u = nI 1) ∧ (upd (q.1 2) u1 (nI 1) u = nI 1 ↔ ∃ i, i < d + 1 ∧ upd (p.1 1) d (nI u1) i = nI u ∧ upd (p.1 2) d (-1) i = -1) := fun u h9 => by
      rw [xA, uu u h9]
      by_cases e : u = u1
      · rw [e, upd_s]; exact ⟨Or.inr rfl, fun _ => Or.inr ⟨rfl, rfl⟩, fun _ => rfl⟩
      · rw [upd_n e]
        obtain ⟨a, b⟩ := h.always u h9
        exact ⟨a, b.trans ⟨fun z => Or.inl z, fun z => z.elim (fun z => z) (fun z => absurd z.1 e)⟩⟩
    have hon : ∀ u, u < 20 → ∃ b, b < 256 ∧ q.1 3 u = nI b ∧ ∀ c, c < 8 → (b.testBit c = true ↔ ∃ i, i < d + 1 ∧ upd (p.1 1) d (nI u1) i = nI u ∧ upd (p.1 2) d (-1) i = nI c ∧ upd (p.1 3) d (b2i x3) i = nI 1) := fun u h9 => by
      obtain ⟨b, x, y, z⟩ := h.onb u h9
      exact ⟨b, x, y, fun c hc => (z c hc).trans ((xB u c 1).trans ⟨fun w => w.elim (fun w => w) (fun w => absurd w.2.1 (m1d c hc)), fun w => Or.inl w⟩).symm⟩
    have hof : ∀ u, u < 20 → ∃ b, b < 256 ∧ q.1 4 u = nI b ∧ ∀ c, c < 8 → (b.testBit c = true ↔ ∃ i, i < d + 1 ∧ upd (p.1 1) d (nI u1) i = nI u ∧ upd (p.1 2) d (-1) i = nI c ∧ upd (p.1 3) d (b2i x3) i = nI 0) := fun u h9 => by
      obtain ⟨b, x, y, z⟩ := h.offb u h9
      exact ⟨b, x, y, fun c hc => (z c hc).trans ((xB u c 0).trans ⟨fun w => w.elim (fun w => w) (fun w => absurd w.2.1 (m1d c hc)), fun w => Or.inl w⟩).symm⟩
    exact ⟨⟨hok, h.f0, h.f1, rfl, h.f3, h.f4, h.f5, h.v2, h.v20, h.needs, h.whole, hal, hon, hof, hdefs, h.chg, h.sub, h.prev, h.last, h.vals, h.tims, h.inc, h.opn, h.hold, h.blot, h.rest, h.call⟩, hnew, hone⟩
  · subst e2
    have hal : ∀ u, u < 20 → (q.1 2 u = nI 0 ∨ q.1 2 u = nI 1) ∧ (q.1 2 u = nI 1 ↔ ∃ i, i < d + 1 ∧ upd (p.1 1) d (nI u1) i = nI u ∧ upd (p.1 2) d (nI c1) i = -1) := fun u h9 => by
      rw [xA]
      obtain ⟨a, b⟩ := h.always u h9
      exact ⟨a, b.trans ⟨fun z => Or.inl z, fun z => z.elim (fun z => z) (fun z => absurd z.2 (m1c c1 hc1))⟩⟩
    -- the row that a defect of a switch is put into, and the other
    have put : ∀ (o : Nat) (R : Nat → Int32), b2i x3 = nI o → (∀ u, u < 20 → ∃ b, b < 256 ∧ R u = nI b ∧ ∀ c, c < 8 → (b.testBit c = true ↔ ∃ i, i < d ∧ p.1 1 i = nI u ∧ p.1 2 i = nI c ∧ p.1 3 i = nI o)) → ∀ u, u < 20 → ∃ b, b < 256 ∧ rPut 20 R (nI u1) (cWithBit (rAt 20 R (nI u1)) (nI c1) true) u = nI b ∧ ∀ c, c < 8 → (b.testBit c = true ↔ ∃ i, i < d + 1 ∧ upd (p.1 1) d (nI u1) i = nI u ∧ upd (p.1 2) d (nI c1) i = nI c ∧ upd (p.1 3) d (b2i x3) i = nI o) := fun o R ho hR u h9 => by
      rw [rAt_in (show u1 < 20 by omega) (by decide), rPut_in (show u1 < 20 by omega) (by decide)]
      obtain ⟨b, x, y, z⟩ := hR u h9
      by_cases e : u = u1
      · subst e
        rw [upd_s, y]
        obtain ⟨b2, hb2, eb2⟩ := wb_ex x hc1 true
        refine ⟨b2, hb2, eb2, fun c hc => ?_⟩
        rw [xB, ← z c hc, ← bB_tb hb2 hc, ← eb2, bB_with (by omega) (by omega), bB_tb x hc]
        by_cases ec : c = c1
        · rw [if_pos ec, ec]
          exact ⟨fun _ => Or.inr ⟨rfl, rfl, ho⟩, fun _ => rfl⟩
        · rw [if_neg ec]
          exact ⟨fun w => Or.inl w, fun w => w.elim (fun w => w) (fun w => absurd ((nI_iff (by omega) (by omega)).mp w.2.1).symm ec)⟩
      · rw [upd_n e]
        refine ⟨b, x, y, fun c hc => ?_⟩
        rw [xB, ← z c hc]
        exact ⟨fun w => Or.inl w, fun w => w.elim (fun w => w) (fun w => absurd ((uu u h9).mp w.1) e)⟩
    have oth : ∀ (o : Nat) (R : Nat → Int32), ¬ b2i x3 = nI o → (∀ u, u < 20 → ∃ b, b < 256 ∧ R u = nI b ∧ ∀ c, c < 8 → (b.testBit c = true ↔ ∃ i, i < d ∧ p.1 1 i = nI u ∧ p.1 2 i = nI c ∧ p.1 3 i = nI o)) → ∀ u, u < 20 → ∃ b, b < 256 ∧ R u = nI b ∧ ∀ c, c < 8 → (b.testBit c = true ↔ ∃ i, i < d + 1 ∧ upd (p.1 1) d (nI u1) i = nI u ∧ upd (p.1 2) d (nI c1) i = nI c ∧ upd (p.1 3) d (b2i x3) i = nI o) := fun o R ho hR u h9 => by
      obtain ⟨b, x, y, z⟩ := hR u h9
      refine ⟨b, x, y, fun c hc => ?_⟩
      rw [xB, ← z c hc]
      exact ⟨fun w => Or.inl w, fun w => w.elim (fun w => w) (fun w => absurd w.2.2 ho)⟩
    cases x3 with
    | true =>
      have eC : cDefR q.1 (nI u1) (nI c1) true = upR q.1 3 (rPut 20 (q.1 3) (nI u1) (cWithBit (rAt 20 (q.1 3) (nI u1)) (nI c1) true)) := by
        unfold cDefR
        rw [if_neg (m1c c1 hc1), if_pos rfl]
      rw [eC]
      exact ⟨⟨hok, h.f0, h.f1, rfl, h.f3, h.f4, h.f5, h.v2, h.v20, h.needs, h.whole, hal, put 1 (q.1 3) b01.1 h.onb, oth 0 (q.1 4) b01.2.1 h.offb, hdefs, h.chg, h.sub, h.prev, h.last, h.vals, h.tims, h.inc, h.opn, h.hold, h.blot, h.rest, h.call⟩, hnew, hone⟩
    | false =>
      have eC : cDefR q.1 (nI u1) (nI c1) false = upR q.1 4 (rPut 20 (q.1 4) (nI u1) (cWithBit (rAt 20 (q.1 4) (nI u1)) (nI c1) true)) := by
        unfold cDefR
        rw [if_neg (m1c c1 hc1), if_neg (by decide)]
      rw [eC]
      exact ⟨⟨hok, h.f0, h.f1, rfl, h.f3, h.f4, h.f5, h.v2, h.v20, h.needs, h.whole, hal, oth 1 (q.1 3) b01.2.2.2 h.onb, put 0 (q.1 4) b01.2.2.1 h.offb, hdefs, h.chg, h.sub, h.prev, h.last, h.vals, h.tims, h.inc, h.opn, h.hold, h.blot, h.rest, h.call⟩, hnew, hone⟩
theorem sim_defect (h : sX q p n d k t v) (x1 x2 : Int32) (x3 : Bool) : simOK q (cDefR q.1 x1 x2 x3, upF q.2 2 (q.2 2 + nI 1)) (mDefQ p.1 p.2 d x1 x2 x3).1 (kDefect q.2 x1 x2) (gCode (nI 1) (nI 0) (nI 2) (kDefect q.2 x1 x2)) (q.2 2 + nI 1) (mDefQ p.1 p.2 d x1 x2 x3).2 := by
  obtain ⟨hn, hn2, hd, hd2, hk, hk2, ht, ht2, hh, hmk⟩ := id h.1.ok
  have hk1 := kv_m h.1 x1
  have hs := kSwitch_m x2
  cases e1 : mIn x1 (nI 0) (p.2 2 - nI 1) with
  | false =>
    rw [e1] at hk1
    have hK : kDefect q.2 x1 x2 = 1 := by unfold kDefect; rw [hk1]; rfl
    have hQ : mDefQ p.1 p.2 d x1 x2 x3 = ((p.1, upF p.2 0 (nI 1)), nI 0) := by unfold mDefQ; rw [e1]; rfl
    rw [hQ, hK]
    exact sim_f h rfl (by decide) (c := 1) (by decide) (by decide) rfl rfl
  | true =>
    rw [e1] at hk1
    obtain ⟨u1, hu1, eu1, -⟩ := mIn_ex2 h.1.v2 e1 (by have := h.1.v20; omega)
    by_cases hx : x2 = -1 ∨ mIn x2 (nI 0) (nI 7) = true
    · have hx9 : x2 = -1 ∨ ∃ c, c < 8 ∧ x2 = nI c := hx.elim Or.inl (fun z => by
        obtain ⟨j, hj, e, -⟩ := mIn_ex z (by decide)
        exact Or.inr ⟨j, by omega, e⟩)
      have hK : kDefect q.2 x1 x2 = if q.2 2 < nI 24 then 0 else 3 := by
        unfold kDefect
        rw [hk1, hs]
        rcases hx with e | e
        · rw [if_pos e]; rfl
        · rw [e]
          by_cases e7 : x2 = -1
          · rw [if_pos e7]; rfl
          · rw [if_neg e7]; rfl
      have hQ : mDefQ p.1 p.2 d x1 x2 x3 = if p.2 3 = nI 24 then ((p.1, upF p.2 0 (nI 2)), nI 0) else ((mDefR p.1 d x1 x2 x3, upF (upF p.2 0 (nI 0)) 3 (p.2 3 + nI 1)), p.2 3 + nI 1) := by
        unfold mDefQ
        rw [e1, if_pos rfl]
        rcases hx with e | e
        · rw [if_pos e]
        · rw [e, if_pos rfl]
          split <;> rfl
      rw [hQ, hK]
      by_cases e9 : d = 24
      · rw [if_pos (show p.2 3 = nI 24 by rw [hd, e9]), if_neg (fun z => by rw [h.1.f2] at z; have := (nI_ltI (by omega) (by decide)).mp z; omega)]
        exact sim_f h rfl (by decide) (c := 2) (by decide) (by decide) rfl rfl
      · rw [if_neg (fun z => by rw [hd] at z; exact e9 ((nI_iff (by omega) (by decide)).mp z)), if_pos (by rw [h.1.f2]; exact (nI_ltI (by omega) (by decide)).mpr (by omega))]
        refine sim_o rfl rfl rfl (by rw [h.1.f2, hd]) ⟨n, d + 1, k, t, v, ?_⟩
        rw [eu1]
        exact s_def h (by omega) hu1 hx9
    · have hxa : ¬ x2 = -1 := fun z => hx (Or.inl z)
      have hxb : mIn x2 (nI 0) (nI 7) = false := Bool.eq_false_iff.mpr (fun z => hx (Or.inr z))
      have hK : kDefect q.2 x1 x2 = 1 := by
        unfold kDefect
        rw [hk1, hs, hxb, if_neg hxa]
        rfl
      have hQ : mDefQ p.1 p.2 d x1 x2 x3 = ((p.1, upF p.2 0 (nI 1)), nI 0) := by
        unfold mDefQ
        rw [e1, hxb, if_pos rfl, if_neg hxa]
        rfl
      rw [hQ, hK]
      exact sim_f h rfl (by decide) (c := 1) (by decide) (by decide) rfl rfl
end S93
