theorem mReI_bit {r : Nat → Nat → Int32} {b : Int32} {c : Nat} (hc : c < 8) (y : Nat) : bB (mReI r c b) y = (bB b y || (bB b c && bB (r 0 c) y)) := by
  have h1 := bB_has b (c := c) (by omega)
  unfold mReI
  rw [bB_or]
  by_cases e : (b >>> (nI c &&& 31)) &&& nI 1 = nI 1
  · rw [if_pos e]
    rw [decide_eq_true e] at h1
    rw [← h1]
    simp
  · rw [if_neg e]
    rw [decide_eq_false e] at h1
    rw [← h1, show nI 0 = (0 : Int32) from rfl, bB_0]
    simp
theorem cGI_m {r : Nat → Nat → Int32} {b : Int32} {c : Nat} (hc : c < 8) : cGI r c b = mReI r c b := by
  unfold cGI mReI cHasBit
  rw [rAt_in hc (by decide)]
  by_cases e : (b >>> (nI c &&& 31)) &&& nI 1 = nI 1
  · rw [if_pos (decide_eq_true e), if_pos e]
  · rw [if_neg (by rw [decide_eq_false e]; decide), if_neg e]
    simp [nI_0]
theorem itN_congr {α : Type} {g h : Nat → α → α} {n : Nat} (e : ∀ i a, i < n → g i a = h i a) (a : α) : itN n g a = itN n h a := by
  induction n with
  | zero => rfl
  | succ n ih => rw [itN_s, itN_s, ih (fun i a hi => e i a (by omega)), e n _ (by omega)]
def rnd (r : Nat → Nat → Int32) (b : Int32) : Int32 := itN 8 (mReI r) b
theorem cGather_m (r : Nat → Nat → Int32) (x : Int32) : cGather r x = itN 7 (fun _ => rnd r) (nI 1 <<< (x &&& 31)) := by
  unfold cGather
  exact itN_congr (fun i a _ => itN_congr (fun c b hc => cGI_m hc) a) _
theorem mReach_m (r : Nat → Nat → Int32) (c : Nat) : mReach r c = itN 8 (fun _ => rnd r) (r 0 c) := rfl
theorem rnd_mono {r : Nat → Nat → Int32} {b : Int32} {y : Nat} (m : Nat) (hm : m ≤ 8) (h : bB b y = true) : bB (itN m (mReI r) b) y = true := by
  induction m with
  | zero => exact h
  | succ m ih => rw [itN_s, mReI_bit (by omega), ih (by omega)]; rfl
theorem rnd_step {r : Nat → Nat → Int32} {b : Int32} {c y : Nat} (hc : c < 8) (h : bB b c = true) (hy : bB (r 0 c) y = true) : bB (rnd r b) y = true := by
  have key : ∀ m, m ≤ 8 → c < m → bB (itN m (mReI r) b) y = true := by
    intro m
    induction m with
    | zero => intro _ h; omega
    | succ m ih =>
      intro hm hcm
      rw [itN_s, mReI_bit (by omega)]
      by_cases e : c = m
      · subst e; rw [rnd_mono c (by omega) h, hy]; simp
      · rw [ih (by omega) (by omega)]; rfl
  exact key 8 (Nat.le_refl _) hc
def Clo (r : Nat → Nat → Int32) (S : Nat → Prop) : Prop := ∀ c, c < 8 → S c → ∀ y, bB (r 0 c) y = true → S y
theorem rnd_in {r : Nat → Nat → Int32} {b : Int32} {S : Nat → Prop} (hS : Clo r S) (h : ∀ y, bB b y = true → S y) : ∀ y, bB (rnd r b) y = true → S y := by
  have key : ∀ m, m ≤ 8 → ∀ y, bB (itN m (mReI r) b) y = true → S y := by
    intro m
    induction m with
    | zero => intro _; exact h
    | succ m ih =>
      intro hm y hy
      rw [itN_s, mReI_bit (by omega)] at hy
      rcases Bool.or_eq_true_iff.mp hy with h1 | h1
      · exact ih (by omega) y h1
      · have h2 := Bool.and_eq_true_iff.mp h1
        exact hS m (by omega) (ih (by omega) m h2.1) y h2.2
  exact key 8 (Nat.le_refl _)
theorem rnds_in {r : Nat → Nat → Int32} {b : Int32} {S : Nat → Prop} (hS : Clo r S) (h : ∀ y, bB b y = true → S y) (m : Nat) : ∀ y, bB (itN m (fun _ => rnd r) b) y = true → S y := by
  induction m with
  | zero => exact h
  | succ m ih => rw [itN_s]; exact rnd_in hS ih
theorem rnds_mono {r : Nat → Nat → Int32} {b : Int32} {y : Nat} (m : Nat) (h : bB b y = true) : bB (itN m (fun _ => rnd r) b) y = true := by
  induction m with
  | zero => exact h
  | succ m ih => rw [itN_s]; exact rnd_mono 8 (Nat.le_refl _) ih
def cnt (b : Int32) : Nat := (bB b 0).toNat + (bB b 1).toNat + (bB b 2).toNat + (bB b 3).toNat + (bB b 4).toNat + (bB b 5).toNat + (bB b 6).toNat + (bB b 7).toNat
