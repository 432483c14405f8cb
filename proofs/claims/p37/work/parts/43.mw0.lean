def mOpR (r : Nat → Nat → Int32) (f : Nat → Int32) (n d k : Nat) (x : Int32) : Nat → Nat → Int32 :=
  upR (upR (upR (upR (upR r 14 (upd (r 14) k x)) 15 (upd (r 15) k (f 1))) 16 (upd (r 16) k (-1))) 17 (upd (r 17) k (mTrace r n d x))) 18 (upd (r 18) k (-1))
def mMk (r : Nat → Nat → Int32) (T : Int32) : Nat := (r 4 T.toNatClampNeg).toNatClampNeg
def mOpenR (r : Nat → Nat → Int32) (f : Nat → Int32) (n d k : Nat) (x : Int32) : Nat → Nat → Int32 :=
  if mTrace r n d x = -1 then mOpR r f n d k x else upR (mOpR r f n d k x) 10 (upd (r 10) (mMk r (mTrace r n d x)) (r 10 (mMk r (mTrace r n d x)) + nI 1))
def mFiR (r : Nat → Nat → Int32) (a b : Nat) (x : Int32) : Nat → Nat → Int32 := upR r 18 (itN b (fun j g => upd g (a + j) x) (r 18))
def mRgR (r : Nat → Nat → Int32) (f : Nat → Int32) (t h a b : Nat) : Nat → Nat → Int32 :=
  if mCalled r f t h = -1 then mFiR r a b (mCalled r f t h)
  else if f 1 - f 1 / nI 2 * nI 2 = 0 then upR (mFiR r a b (mCalled r f t h)) 12 (upd (r 12) (mCalled r f t h).toNatClampNeg (r 12 (mCalled r f t h).toNatClampNeg + nI 1))
  else upR (upR (mFiR r a b (mCalled r f t h)) 13 (upd (r 13) (mCalled r f t h).toNatClampNeg (r 13 (mCalled r f t h).toNatClampNeg + nI 1))) 11 (upd (r 11) (mCalled r f t h).toNatClampNeg (f 1))
def mRgF (r : Nat → Nat → Int32) (f : Nat → Int32) (t h : Nat) : Nat → Int32 := if mCalled r f t h = -1 then upF f 5 (f 5 + nI 1) else f
theorem mTrace_in {r : Nat → Nat → Int32} {n d : Nat} {x : Int32} (h : ¬ mTrace r n d x = -1) : ∃ j, j < n ∧ mTrace r n d x = nI j := by
  unfold mTrace at h ⊢
  split
  · rename_i h1
    rw [if_pos h1] at h
    obtain ⟨j, h2, h3, -⟩ := lastN_ex h
    exact ⟨j, h2, h3⟩
  · rename_i h1
    rw [if_neg h1] at h
    exact absurd rfl h
theorem itN_or {α : Type} {P : α → Prop} {g : Nat → α → α} {a : α} (h0 : P a) (N : Nat) (hs : ∀ i q, i < N → P q → P (g i q)) : P (itN N g a) := by
  induction N with
  | zero => exact h0
  | succ n ih => exact hs n _ (by omega) (ih (fun i q hi => hs i q (by omega)))
theorem mCalled_ok {r : Nat → Nat → Int32} {f : Nat → Int32} {t h : Nat} (hh : r 9 (t / 14) = nI h) (h6 : h < 6) : mCalled r f t h = -1 ∨ ∃ j, j < 6 ∧ mCalled r f t h = nI j := by
  unfold mCalled
  split
  · exact itN_or (P := fun q => q = -1 ∨ ∃ j, j < 6 ∧ q = nI j) (Or.inl rfl) 6 (fun i q hi hq => mCI_ok hi hq)
  · exact Or.inr ⟨h, h6, hh⟩
theorem mMk_ok {r : Nat → Nat → Int32} {n d : Nat} {x : Int32} (hm : ∀ c, c < n → ∃ m, m < 6 ∧ r 4 c = nI m) (hn : n < 2 ^ 31) (h : ¬ mTrace r n d x = -1) : r 4 (mTrace r n d x).toNatClampNeg = nI (mMk r (mTrace r n d x)) ∧ mMk r (mTrace r n d x) < 6 := by
  obtain ⟨j, h1, h2⟩ := mTrace_in h
  obtain ⟨m, h3, h4⟩ := hm j h1
  unfold mMk
  rw [h2, nI_clamp (by omega), h4, nI_clamp (by omega)]
  exact ⟨rfl, h3⟩
