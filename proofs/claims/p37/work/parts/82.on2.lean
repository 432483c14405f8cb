theorem s_on {q p : gRF} {n d k t v : Nat} (h : sI q p n d k t v) {S : Int32} (hS : Lo S) : cOn q.1 S = itN 8 (fun _ => rndO p.1) S := by
  have hr : ∀ c, c < 8 → Lo (p.1 0 c) := fun c hc => by
    obtain ⟨-, b, hb, e⟩ := h.needs c hc
    exact Lo_of e hb
  have hg : ∀ c, cGather q.1 (nI c) = cGather p.1 (nI c) := fun c => by
    rw [cGather_m, cGather_m]
    exact itN_congr (fun _ a _ => itN_congr (fun c b hc => by unfold mReI; rw [(h.needs c hc).1]) a) _
  apply bB_ext
  intro y hy
  have h1 : bB (cOn q.1 S) y = (decide (y < 8) && decide (rAt 8 (q.1 1) (nI y) &&& (S ^^^ (-1)) = 0)) := bB_itW (P := fun c => decide (rAt 8 (q.1 1) (nI c) &&& (S ^^^ (-1)) = 0)) (Nat.le_refl _) hy
  rw [h1]
  by_cases e : y < 8
  · have h2 : (rAt 8 (q.1 1) (nI y) &&& (S ^^^ (-1)) = 0) ↔ bB (itN 8 (fun _ => rndO p.1) S) y = true := by
      rw [rAt_in e (by decide), h.whole y e, hg, sub0, ons_gather hr e]
    cases e3 : bB (itN 8 (fun _ => rndO p.1) S) y with
    | true => rw [decide_eq_true (h2.mpr e3), decide_eq_true e]; rfl
    | false =>
      have h5 : ¬ (rAt 8 (q.1 1) (nI y) &&& (S ^^^ (-1)) = 0) := fun z => by rw [h2.mp z] at e3; cases e3
      rw [decide_eq_false h5]; simp
  · cases e3 : bB (itN 8 (fun _ => rndO p.1) S) y with
    | false => simp [e]
    | true => exact absurd (hS y (rOs_le 8 y e3)) e
