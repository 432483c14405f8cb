theorem cnt_t {b b2 : Int32} {y : Nat} (h : bB b y = true → bB b2 y = true) : (bB b y).toNat ≤ (bB b2 y).toNat := by
  cases e : bB b y with
  | false => exact Nat.zero_le _
  | true => rw [h e]; exact Nat.le_refl _
theorem cnt_lt {b b2 : Int32} (h : ∀ y, bB b y = true → bB b2 y = true) {y : Nat} (hy : y < 8) (h1 : bB b y = false) (h2 : bB b2 y = true) : cnt b + 1 ≤ cnt b2 := by
  have g0 := cnt_t (h 0)
  have g1 := cnt_t (h 1)
  have g2 := cnt_t (h 2)
  have g3 := cnt_t (h 3)
  have g4 := cnt_t (h 4)
  have g5 := cnt_t (h 5)
  have g6 := cnt_t (h 6)
  have g7 := cnt_t (h 7)
  have k1 : (bB b y).toNat = 0 := by rw [h1]; rfl
  have k2 : (bB b2 y).toNat = 1 := by rw [h2]; rfl
  unfold cnt
  rcases (show y = 0 ∨ y = 1 ∨ y = 2 ∨ y = 3 ∨ y = 4 ∨ y = 5 ∨ y = 6 ∨ y = 7 by omega) with e | e | e | e | e | e | e | e <;> subst e <;> omega
theorem cnt_8 (b : Int32) : cnt b ≤ 8 := by
  have g : ∀ y, (bB b y).toNat ≤ 1 := fun y => by cases bB b y <;> decide
  have g0 := g 0
  have g1 := g 1
  have g2 := g 2
  have g3 := g 3
  have g4 := g 4
  have g5 := g 5
  have g6 := g 6
  have g7 := g 7
  unfold cnt
  omega
theorem cnt_all {b : Int32} (h : 8 ≤ cnt b) {y : Nat} (hy : y < 8) : bB b y = true := by
  have g : ∀ y, (bB b y).toNat ≤ 1 := fun y => by cases bB b y <;> decide
  have g0 := g 0
  have g1 := g 1
  have g2 := g 2
  have g3 := g 3
  have g4 := g 4
  have g5 := g 5
  have g6 := g 6
  have g7 := g 7
  unfold cnt at h
  have k : (bB b y).toNat = 1 := by
    rcases (show y = 0 ∨ y = 1 ∨ y = 2 ∨ y = 3 ∨ y = 4 ∨ y = 5 ∨ y = 6 ∨ y = 7 by omega) with e | e | e | e | e | e | e | e <;> subst e <;> omega
  cases e : bB b y with
  | false => rw [e] at k; exact absurd k (by decide)
  | true => rfl
def Lo (b : Int32) : Prop := ∀ y, bB b y = true → y < 8
theorem Lo_clo {r : Nat → Nat → Int32} (hr : ∀ c, c < 8 → Lo (r 0 c)) : Clo r (fun y => y < 8) := fun c hc _ y hy => hr c hc y hy
theorem rnd_or {r : Nat → Nat → Int32} {b : Int32} (hr : ∀ c, c < 8 → Lo (r 0 c)) : Clo r (fun y => bB b y = true) ∨ cnt b + 1 ≤ cnt (rnd r b) := by
  by_cases h : ∃ y, y < 8 ∧ bB b y = false ∧ bB (rnd r b) y = true
  · obtain ⟨y, h1, h2, h3⟩ := h
    exact Or.inr (cnt_lt (fun y hy => rnd_mono 8 (Nat.le_refl _) hy) h1 h2 h3)
  · refine Or.inl (fun c hc hcb y hy => ?_)
    show bB b y = true
    cases e : bB b y with
    | true => rfl
    | false => exact absurd ⟨y, hr c hc y hy, e, rnd_step hc hcb hy⟩ h
theorem rnds_or {r : Nat → Nat → Int32} {b : Int32} (hr : ∀ c, c < 8 → Lo (r 0 c)) (m : Nat) : Clo r (fun y => bB (itN m (fun _ => rnd r) b) y = true) ∨ cnt b + m ≤ cnt (itN m (fun _ => rnd r) b) := by
  induction m with
  | zero => exact Or.inr (Nat.le_refl _)
  | succ m ih =>
    rw [itN_s]
    rcases ih with h | h
    · exact Or.inl (fun c hc hcb y hy => rnd_mono 8 (Nat.le_refl _) (h c hc (rnd_in h (fun _ z => z) c hcb) y hy))
    · rcases rnd_or (b := itN m (fun _ => rnd r) b) hr with h1 | h1
      · exact Or.inl (fun c hc hcb y hy => rnd_mono 8 (Nat.le_refl _) (h1 c hc (rnd_in h1 (fun _ z => z) c hcb) y hy))
      · exact Or.inr (by omega)
theorem rnds_clo {r : Nat → Nat → Int32} {b : Int32} (hr : ∀ c, c < 8 → Lo (r 0 c)) (m : Nat) (h : 8 ≤ cnt b + m) : Clo r (fun y => bB (itN m (fun _ => rnd r) b) y = true) := by
  rcases rnds_or (b := b) hr m with h1 | h1
  · exact h1
  · exact fun c hc _ y hy => cnt_all (by omega) (hr c hc y hy)
theorem gather_clo {r : Nat → Nat → Int32} (hr : ∀ c, c < 8 → Lo (r 0 c)) {x : Nat} (hx : x < 8) : Clo r (fun y => bB (cGather r (nI x)) y = true) ∧ bB (cGather r (nI x)) x = true ∧ ∀ S : Nat → Prop, Clo r S → S x → ∀ y, bB (cGather r (nI x)) y = true → S y := by
  have hs : bB (nI 1 <<< (nI x &&& 31)) x = true := by rw [bB_sh (by omega) (by omega)]; simp
  rw [cGather_m]
  refine ⟨rnds_clo hr 7 ?_, rnds_mono 7 hs, fun S hS hx2 => rnds_in hS (fun y hy => ?_) 7⟩
  · have : cnt (nI 1 <<< (nI x &&& 31)) = 1 := by
      have g : ∀ x, x < 8 → cnt (nI 1 <<< (nI x &&& 31)) = 1 := by decide +kernel
      exact g x hx
    omega
  · by_cases h32 : y < 32
    · rw [bB_sh (by omega) h32] at hy
      have := of_decide_eq_true hy
      subst this
      exact hx2
    · exfalso
      have : bB (nI 1 <<< (nI x &&& 31)) y = false := BitVec.getLsbD_of_ge _ _ (by omega)
      rw [this] at hy
      cases hy
theorem reach_clo {r : Nat → Nat → Int32} (hr : ∀ c, c < 8 → Lo (r 0 c)) {x : Nat} : Clo r (fun y => bB (mReach r x) y = true) ∧ (∀ y, bB (r 0 x) y = true → bB (mReach r x) y = true) ∧ ∀ S : Nat → Prop, Clo r S → (∀ y, bB (r 0 x) y = true → S y) → ∀ y, bB (mReach r x) y = true → S y := by
  rw [mReach_m]
  exact ⟨rnds_clo hr 8 (by omega), fun y hy => rnds_mono 8 hy, fun S hS h => rnds_in hS h 8⟩
theorem gather_reach {r : Nat → Nat → Int32} (hr : ∀ c, c < 8 → Lo (r 0 c)) {x y : Nat} (hx : x < 8) (hxy : ¬ y = x) : bB (cGather r (nI x)) y = bB (mReach r x) y := by
  obtain ⟨g1, g2, g3⟩ := gather_clo hr hx
  obtain ⟨k1, k2, k3⟩ := reach_clo hr (x := x)
  have h1 : bB (cGather r (nI x)) y = true → bB (mReach r x) y = true := fun h => by
    rcases g3 (fun y => y = x ∨ bB (mReach r x) y = true) (fun c hc hcs z hz => Or.inr (by
      rcases hcs with e | e
      · subst e; exact k2 z hz
      · exact k1 c hc e z hz)) (Or.inl rfl) y h with e | e
    · exact absurd e hxy
    · exact e
  have h2 : bB (mReach r x) y = true → bB (cGather r (nI x)) y = true := fun h => k3 _ g1 (fun z hz => g1 x hx g2 z hz) y h
  cases e : bB (cGather r (nI x)) y with
  | true => exact (h1 e).symm
  | false =>
    cases e2 : bB (mReach r x) y with
    | false => rfl
    | true => rw [h2 e2] at e; cases e
