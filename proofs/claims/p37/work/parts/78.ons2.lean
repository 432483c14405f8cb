theorem rOs_le {r : Nat → Nat → Int32} {b : Int32} (m : Nat) : ∀ y, bB (itN m (fun _ => rndO r) b) y = true → bB b y = true := by
  induction m with
  | zero => intro y h; exact h
  | succ m ih => intro y h; rw [itN_s] at h; exact ih y (rO_le 8 (Nat.le_refl _) y h)
theorem rOs_keep {r : Nat → Nat → Int32} {b : Int32} {T : Nat → Prop} (hT : Clo r T) (h : ∀ y, y < 32 → T y → bB b y = true) (hr : ∀ c, c < 8 → Lo (r 0 c)) (m : Nat) : ∀ y, y < 32 → T y → bB (itN m (fun _ => rndO r) b) y = true := by
  induction m with
  | zero => exact h
  | succ m ih => rw [itN_s]; exact rO_keep hT ih hr 8 (Nat.le_refl _)
theorem rOs_or {r : Nat → Nat → Int32} {b : Int32} (hr : ∀ c, c < 8 → Lo (r 0 c)) (m : Nat) : Clo r (fun y => bB (itN m (fun _ => rndO r) b) y = true) ∨ cnt (itN m (fun _ => rndO r) b) + m ≤ cnt b := by
  induction m with
  | zero => exact Or.inr (Nat.le_refl _)
  | succ m ih =>
    rw [itN_s]
    rcases ih with h | h
    · exact Or.inl (fun c hc hcb y hy => rO_keep h (fun _ _ z => z) hr 8 (Nat.le_refl _) y (by have := hr c hc y hy; omega) (h c hc (rO_le 8 (Nat.le_refl _) c hcb) y hy))
    · by_cases e : ∃ y, y < 8 ∧ bB (rndO r (itN m (fun _ => rndO r) b)) y = false ∧ bB (itN m (fun _ => rndO r) b) y = true
      · obtain ⟨y, h1, h2, h3⟩ := e
        have h9 : cnt (rndO r (itN m (fun _ => rndO r) b)) + 1 ≤ cnt (itN m (fun _ => rndO r) b) := cnt_lt (fun y hy => rO_le 8 (Nat.le_refl _) y hy) h1 h2 h3
        exact Or.inr (by show cnt (rndO r (itN m (fun _ => rndO r) b)) + (m + 1) ≤ cnt b; omega)
      · refine Or.inl (fun c hc hcb y hy => ?_)
        have h4 := rO_step hc hcb y hy
        show bB (rndO r (itN m (fun _ => rndO r) b)) y = true
        cases e2 : bB (rndO r (itN m (fun _ => rndO r) b)) y with
        | true => rfl
        | false => exact absurd ⟨y, hr c hc y hy, e2, h4⟩ e
theorem rOs_clo {r : Nat → Nat → Int32} {b : Int32} (hr : ∀ c, c < 8 → Lo (r 0 c)) : Clo r (fun y => bB (itN 8 (fun _ => rndO r) b) y = true) := by
  rcases rOs_or (b := b) hr 8 with h | h
  · exact h
  · have h1 := cnt_8 b
    intro c hc hcb y hy
    exfalso
    have h2 : cnt (itN 8 (fun _ => rndO r) b) = 0 := by omega
    have h3 : (bB (itN 8 (fun _ => rndO r) b) c).toNat = 0 := by
      unfold cnt at h2
      rcases (show c = 0 ∨ c = 1 ∨ c = 2 ∨ c = 3 ∨ c = 4 ∨ c = 5 ∨ c = 6 ∨ c = 7 by omega) with e | e | e | e | e | e | e | e <;> subst e <;> omega
    rw [show bB (itN 8 (fun _ => rndO r) b) c = true from hcb] at h3
    exact absurd h3 (by decide)
/-- a switch stays on iff all that it needs, at any depth, is in the set -/
theorem ons_gather {r : Nat → Nat → Int32} {b : Int32} (hr : ∀ c, c < 8 → Lo (r 0 c)) {c : Nat} (hc : c < 8) : bB (itN 8 (fun _ => rndO r) b) c = true ↔ ∀ y, bB (cGather r (nI c)) y = true → bB b y = true := by
  obtain ⟨g1, g2, g3⟩ := gather_clo hr hc
  constructor
  · intro h y hy
    exact rOs_le 8 y (g3 _ (rOs_clo hr) h y hy)
  · intro h
    exact rOs_keep g1 (fun y _ hy => h y hy) hr 8 c (by omega) g2
