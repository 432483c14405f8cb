theorem bB_ge {b : Int32} {y : Nat} (h : 32 ≤ y) : bB b y = false := BitVec.getLsbD_of_ge _ _ h
theorem sub0 {a S : Int32} : a &&& (S ^^^ (-1)) = 0 ↔ ∀ y, bB a y = true → bB S y = true := by
  constructor
  · intro h y hy
    by_cases h32 : y < 32
    · have h1 : bB (a &&& (S ^^^ (-1))) y = false := by rw [h]; exact bB_0 y
      rw [bB_and, bB_not S h32, hy] at h1
      cases e : bB S y with
      | true => rfl
      | false => rw [e] at h1; cases h1
    · rw [bB_ge (by omega)] at hy; cases hy
  · intro h
    apply bB_ext
    intro y hy
    rw [bB_and, bB_not S hy, bB_0]
    cases e : bB a y with
    | false => rfl
    | true => rw [h y e]; rfl
theorem mO2_bit {r : Nat → Nat → Int32} {b : Int32} {c : Nat} (hc : c < 8) {y : Nat} (hy : y < 32) : bB (mO2 r c b) y = true ↔ bB b y = true ∧ (y = c → ∀ w, bB (r 0 c) w = true → bB b w = true) := by
  unfold mO2 mOc
  rw [bB_and]
  by_cases e : (r 0 c) &&& (b ^^^ (-1)) = 0
  · rw [if_pos e, bB_m1 hy]
    have h := sub0.mp e
    constructor
    · intro h1; exact ⟨by simpa using h1, fun _ => h⟩
    · intro h1; simpa using h1.1
  · rw [if_neg e, bB_not _ hy, bB_sh (by omega) hy]
    have h : ¬ ∀ w, bB (r 0 c) w = true → bB b w = true := fun z => e (sub0.mpr z)
    constructor
    · intro h1
      have h2 := Bool.and_eq_true_iff.mp h1
      refine ⟨h2.1, fun e2 => ?_⟩
      subst e2
      exact absurd h2.2 (by simp)
    · rintro ⟨h1, h2⟩
      rw [h1]
      have : ¬ y = c := fun e2 => h (h2 e2)
      simp [this]
def rndO (r : Nat → Nat → Int32) (b : Int32) : Int32 := itN 8 (mO2 r) b
theorem rO_le {r : Nat → Nat → Int32} {b : Int32} (m : Nat) (hm : m ≤ 8) : ∀ y, bB (itN m (mO2 r) b) y = true → bB b y = true := by
  induction m with
  | zero => intro y h; exact h
  | succ m ih =>
    intro y h
    by_cases h32 : y < 32
    · rw [itN_s] at h
      exact ih (by omega) y ((mO2_bit (by omega) h32).mp h).1
    · rw [bB_ge (by omega)] at h; cases h
theorem rO_keep {r : Nat → Nat → Int32} {b : Int32} {T : Nat → Prop} (hT : Clo r T) (h : ∀ y, y < 32 → T y → bB b y = true) (hr : ∀ c, c < 8 → Lo (r 0 c)) (m : Nat) (hm : m ≤ 8) : ∀ y, y < 32 → T y → bB (itN m (mO2 r) b) y = true := by
  induction m with
  | zero => exact h
  | succ m ih =>
    intro y hy hTy
    rw [itN_s]
    refine (mO2_bit (by omega) hy).mpr ⟨ih (by omega) y hy hTy, fun e w hw => ?_⟩
    subst e
    have hw8 := hr y (by omega) w hw
    exact ih (by omega) w (by omega) (hT y (by omega) hTy w hw)
theorem rO_step {r : Nat → Nat → Int32} {b : Int32} {c : Nat} (hc : c < 8) (h : bB (rndO r b) c = true) : ∀ w, bB (r 0 c) w = true → bB b w = true := by
  have key : ∀ m, m ≤ 8 → c < m → bB (itN m (mO2 r) b) c = true → ∀ w, bB (r 0 c) w = true → bB b w = true := by
    intro m
    induction m with
    | zero => intro _ h; omega
    | succ m ih =>
      intro hm hcm h1
      rw [itN_s] at h1
      have h2 := (mO2_bit (by omega) (show c < 32 by omega)).mp h1
      by_cases e : c = m
      · subst e
        exact fun w hw => rO_le c (by omega) w (h2.2 rfl w hw)
      · exact ih (by omega) (by omega) h2.1
  exact key 8 (Nat.le_refl _) hc h
