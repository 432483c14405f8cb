theorem upF_uu (f : Nat → Int32) (k : Nat) (a b : Int32) : upF (upF f k a) k b = upF f k b := by
  funext j
  unfold upF
  cases Nat.beq j k <;> rfl
theorem lastN_ex {n : Nat} {P : Nat → Bool} (h : ¬ lastN n P = -1) : ∃ j, j < n ∧ lastN n P = nI j ∧ P j = true := by
  induction n with
  | zero => exact absurd rfl h
  | succ n ih =>
    by_cases hp : P n = true
    · exact ⟨n, by omega, by simp [lastN, hp], hp⟩
    · have e : lastN (n + 1) P = lastN n P := by simp [lastN, hp]
      rw [e] at h
      obtain ⟨j, h1, h2, h3⟩ := ih h
      exact ⟨j, by omega, e.trans h2, h3⟩
theorem lastN_in {n N : Nat} {P : Nat → Bool} (h : ¬ lastN n P = -1) (hn : n ≤ N) (hN : N < 2 ^ 31) : vp_in (lastN n P) N := by
  obtain ⟨j, h1, h2, -⟩ := lastN_ex h
  rw [h2]
  exact vp_in_nI (by omega) hN
theorem q_nn {q : Int32} {N : Nat} (h : q = -1 ∨ ∃ j, j < N ∧ q = nI j) (hq : ¬ q = -1) (hN : N < 2 ^ 31) : q = nI q.toNatClampNeg ∧ q.toNatClampNeg < N := by
  rcases h with h | ⟨j, h1, h2⟩
  · exact absurd h hq
  · rw [h2, nI_clamp (by omega)]
    exact ⟨rfl, h1⟩
theorem n_tn {x : Int32} {m : Nat} (h : x = nI m) (hm : m < 2 ^ 31) : x = nI x.toNatClampNeg ∧ x.toNatClampNeg = m := by
  rw [h, nI_clamp hm]
  exact ⟨rfl, rfl⟩
def mOK (r : Nat → Nat → Int32) (f : Nat → Int32) (n d k t : Nat) : Prop :=
  f 4 = nI n ∧ n ≤ 200 ∧ f 3 = nI d ∧ d ≤ 24 ∧ f 6 = nI k ∧ k ≤ 200 ∧ f 1 = nI t ∧ t ≤ 560 ∧ (∀ w, w ≤ t / 14 + 1 → ∃ h, h < 6 ∧ r 9 w = nI h) ∧ (∀ c, c < n → ∃ m, m < 6 ∧ r 4 c = nI m)
def mIn (x a b : Int32) : Bool := if x < a then false else if b < x then false else true
def mIs (r : Nat → Nat → Int32) (so ta wo : Int32) (c : Nat) : Bool := if nI c = wo then false else if r 5 c = so then (if r 6 c = ta then true else false) else false
def mLatest (r : Nat → Nat → Int32) (n : Nat) (so ta wo : Int32) : Int32 := lastN n (mIs r so ta wo)
def mVal (r : Nat → Nat → Int32) (n : Nat) (so ta wo : Int32) : Int32 := if mLatest r n so ta wo = -1 then nI 0 else r 7 (mLatest r n so ta wo).toNatClampNeg
def mOb (r : Nat → Nat → Int32) (n : Nat) (x wo : Int32) (c : Nat) : Int32 := if mVal r n (nI 0) (nI c) wo ≤ x then nI 0 else nI 1 <<< (nI c &&& 31)
def mO1 (r : Nat → Nat → Int32) (n : Nat) (x wo : Int32) (c : Nat) (b : Int32) : Int32 := b ||| mOb r n x wo c
def mOc (r : Nat → Nat → Int32) (c : Nat) (b : Int32) : Int32 := if (r 0 c) &&& (b ^^^ (-1)) = 0 then -1 else (nI 1 <<< (nI c &&& 31)) ^^^ (-1)
def mO2 (r : Nat → Nat → Int32) (c : Nat) (b : Int32) : Int32 := b &&& mOc r c b
def mOns (r : Nat → Nat → Int32) (n : Nat) (x wo : Int32) : Int32 := itN 8 (fun _ b => itN 8 (mO2 r) b) (itN 8 (mO1 r n x wo) (nI 0))
def mSh (r : Nat → Nat → Int32) (on : Int32) (i : Nat) : Bool := if r 2 i = -1 then true else if b2i (decide ((on >>> (r 2 i &&& 31)) &&& nI 1 = nI 1)) = r 3 i then true else false
def mBI (r : Nat → Nat → Int32) (v on : Int32) (i : Nat) (b : Bool) : Bool := if b then true else if r 1 i = v then mSh r on i else false
def mBad (r : Nat → Nat → Int32) (n d : Nat) (x wo : Int32) : Bool := itN d (mBI r (mVal r n (nI 1) x wo) (mOns r n x wo)) false
def mTP (r : Nat → Nat → Int32) (n d : Nat) (x : Int32) (c : Nat) : Bool := if mBad r n d x (nI c) then false else true
def mTrace (r : Nat → Nat → Int32) (n d : Nat) (x : Int32) : Int32 := if mBad r n d x (-1) then lastN n (mTP r n d x) else -1
def mRest (r : Nat → Nat → Int32) (f : Nat → Int32) (p : Nat) : Bool := if r 11 p = -1 then false else if f 1 ≤ r 11 p then false else if r 11 p + nI 12 < f 1 then false else true
def mMakeR (r : Nat → Nat → Int32) (f : Nat → Int32) (n : Nat) (x1 x2 x3 x4 : Int32) : Nat → Nat → Int32 :=
  upR (upR (upR (upR (upR r 4 (upd (r 4) n x1)) 5 (upd (r 5) n x2)) 6 (upd (r 6) n x3)) 7 (upd (r 7) n x4)) 8 (upd (r 8) n (f 1))
def mOp (r : Nat → Nat → Int32) (x : Int32) (i : Nat) : Bool := if r 14 i = x then (if r 16 i = -1 then true else false) else false
def mOpen (r : Nat → Nat → Int32) (k : Nat) (x : Int32) : Int32 := lastN k (mOp r x)
def mSince (r : Nat → Nat → Int32) (n : Nat) (x : Int32) : Int32 := if mLatest r n (nI 1) x (-1) = -1 then nI 0 else r 8 (mLatest r n (nI 1) x (-1)).toNatClampNeg
def mH0 (r : Nat → Nat → Int32) (f : Nat → Int32) (n : Nat) (x1 x2 : Int32) : Bool := if x1 ≤ 0 then false else if mVal r n (nI 1) (x1 - nI 1) (-1) = x2 then (if nI 2 ≤ f 1 - mSince r n (x1 - nI 1) then false else true) else true
def mHI (r : Nat → Nat → Int32) (k : Nat) (i : Nat) (b : Bool) : Bool := if b then true else if mOpen r k (nI i) = -1 then false else true
def mHeld (r : Nat → Nat → Int32) (f : Nat → Int32) (n k g : Nat) (x2 : Int32) : Bool := itN g (mHI r k) (mH0 r f n (nI g) x2)
def mNP (r : Nat → Nat → Int32) (p j : Nat) : Bool := if r 9 j = nI p then true else false
def mN1 (r : Nat → Nat → Int32) (p w : Nat) : Int32 := if lastN w (mNP r p) = -1 then nI w + nI 1 else nI w - lastN w (mNP r p)
def mNear (r : Nat → Nat → Int32) (p w : Nat) : Int32 := mN1 r p w + r 10 p
def mBgI (r : Nat → Nat → Int32) (w : Nat) (i : Nat) (q : Int32) : Int32 := if nI (5 - i) = r 9 w then q else if q = -1 then nI (5 - i) else if mNear r (5 - i) (w + 1) < mNear r q.toNatClampNeg (w + 1) then q else nI (5 - i)
def mBg0 (r : Nat → Nat → Int32) (h : Nat) : Nat → Nat → Int32 := upR r 10 (upd (r 10) h (nI 0))
def mBegR (r : Nat → Nat → Int32) (h w : Nat) : Nat → Nat → Int32 := upR (upR r 10 (upd (r 10) h (nI 0))) 9 (upd (r 9) (w + 1) (itN 6 (mBgI (upR r 10 (upd (r 10) h (nI 0))) w) (-1)))
def mCI (r : Nat → Nat → Int32) (f : Nat → Int32) (i : Nat) (q : Int32) : Int32 := if mRest r f i then q else if q = -1 then nI i else if r 10 i ≤ r 10 q.toNatClampNeg then q else nI i
def mCalled (r : Nat → Nat → Int32) (f : Nat → Int32) (t h : Nat) : Int32 := if mRest r f h then itN 6 (mCI r f) (-1) else r 9 (t / 14)
def mReI (r : Nat → Nat → Int32) (c : Nat) (b : Int32) : Int32 := b ||| (if (b >>> (nI c &&& 31)) &&& nI 1 = nI 1 then r 0 c else nI 0)
def mReach (r : Nat → Nat → Int32) (c : Nat) : Int32 := itN 8 (fun _ b => itN 8 (mReI r) b) (r 0 c)
def mBtI (x : Int32) (c : Nat) (b : Int32) : Int32 := b + ((x >>> (nI c &&& 31)) &&& nI 1)
def mBits (x : Int32) : Int32 := itN 8 (mBtI x) (nI 0)
theorem mCI_ok {r : Nat → Nat → Int32} {f : Nat → Int32} {i : Nat} {q : Int32} (hi : i < 6) (h : q = -1 ∨ ∃ j, j < 6 ∧ q = nI j) : mCI r f i q = -1 ∨ ∃ j, j < 6 ∧ mCI r f i q = nI j := by
  unfold mCI
  split
  · exact h
  · split
    · exact Or.inr ⟨i, hi, rfl⟩
    · split
      · exact h
      · exact Or.inr ⟨i, hi, rfl⟩
theorem mBgI_ok {r : Nat → Nat → Int32} {w i : Nat} {q : Int32} (h : q = -1 ∨ ∃ j, j < 6 ∧ q = nI j) : mBgI r w i q = -1 ∨ ∃ j, j < 6 ∧ mBgI r w i q = nI j := by
  unfold mBgI
  split
  · exact h
  · split
    · exact Or.inr ⟨5 - i, by omega, rfl⟩
    · split
      · exact h
      · exact Or.inr ⟨5 - i, by omega, rfl⟩
