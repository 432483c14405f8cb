theorem rAt_in {n j : Nat} {g : Nat → Int32} (hj : j < n) (hn : n < 2 ^ 31) : rAt n g (nI j) = g j := by
  unfold rAt
  rw [if_neg (fun h => by rw [Int32.lt_iff_toInt_lt, nI_toInt (by omega), Int32.toInt_zero] at h; omega), if_neg (fun h => by have := (nI_leI (a := n) (b := j) (by omega) (by omega)).mp h; omega), nI_clamp (by omega)]
theorem rPut_in {n j : Nat} {g : Nat → Int32} {v : Int32} (hj : j < n) (hn : n < 2 ^ 31) : rPut n g (nI j) v = upd g j v := by
  unfold rPut
  rw [if_neg (fun h => by rw [Int32.lt_iff_toInt_lt, nI_toInt (by omega), Int32.toInt_zero] at h; omega), if_neg (fun h => by have := (nI_leI (a := n) (b := j) (by omega) (by omega)).mp h; omega), nI_clamp (by omega)]
theorem upd_s (g : Nat → Int32) (j : Nat) (v : Int32) : upd g j v j = v := by simp [upd]
theorem upd_n {g : Nat → Int32} {j i : Nat} {v : Int32} (h : ¬ i = j) : upd g j v i = g i := by simp [upd, h]
theorem rFill_in {n j : Nat} {v : Int32} (hj : j < n) : rFill n v j = v := by
  unfold rFill
  induction n with
  | zero => omega
  | succ n ih =>
    rw [itN_s]
    by_cases h : j = n
    · subst h; exact upd_s _ _ _
    · rw [upd_n h]; exact ih (by omega)
theorem mIn_k {x : Int32} {a b : Nat} (hb : b = a + 1) (ha : a + 1 < 2 ^ 31) : (if x < 0 then 1 else if x < nI b then 0 else 1) = if mIn x (nI 0) (nI a) then 0 else 1 := by
  subst hb
  unfold mIn
  rw [nI_0]
  by_cases h1 : x < 0
  · rw [if_pos h1, if_pos h1]; rfl
  · rw [if_neg h1, if_neg h1]
    have h2 : x < nI (a + 1) ↔ ¬ nI a < x := by
      rw [Int32.lt_iff_toInt_lt, Int32.lt_iff_toInt_lt, nI_toInt (by omega), nI_toInt (by omega)]
      omega
    by_cases h3 : nI a < x
    · rw [if_neg (fun h => h2.mp h h3), if_pos h3]; rfl
    · rw [if_pos (h2.mpr h3), if_neg h3]; rfl
theorem kPerson_m (x : Int32) : kPerson x = if mIn x (nI 0) (nI 5) then 0 else 1 := mIn_k rfl (by decide)
theorem kRing_m (x : Int32) : kRing x = if mIn x (nI 0) (nI 3) then 0 else 1 := mIn_k rfl (by decide)
theorem kBelow_m (n : Nat) (x : Int32) (hn : n < 2 ^ 31) : kBelow (nI n) x = if mIn x (nI 0) (nI n - nI 1) then 0 else 1 := by
  cases n with
  | zero =>
    unfold kBelow mIn
    rw [nI_0]
    by_cases h1 : x < 0
    · rw [if_pos h1, if_pos h1]; rfl
    · have h9 : (0 : Int32) - nI 1 < x := by
        rw [Int32.lt_iff_toInt_lt] at h1 ⊢
        have e : ((0 : Int32) - nI 1).toInt = -1 := by decide
        rw [Int32.toInt_zero] at h1
        rw [e]
        omega
      rw [if_neg h1, if_neg h1, if_neg h1, if_pos h9]
      rfl
  | succ m =>
    rw [show nI (m + 1) - nI 1 = nI m from by rw [← nI_add]; simp]
    exact mIn_k rfl hn
theorem cIsSwitch_m (x : Int32) : cIsSwitch x = mIn x (nI 0) (nI 7) := by
  unfold cIsSwitch mIn
  rw [nI_0]
  by_cases h1 : x < 0
  · rw [if_pos h1, if_pos h1]
  · rw [if_neg h1, if_neg h1]
    have h2 : nI 8 ≤ x ↔ nI 7 < x := by
      rw [Int32.lt_iff_toInt_lt, Int32.le_iff_toInt_le, nI_toInt (by decide), nI_toInt (by decide)]
      omega
    by_cases h3 : nI 7 < x
    · rw [if_pos (h2.mpr h3), if_pos h3]
    · rw [if_neg (fun h => h3 (h2.mp h)), if_neg h3]
theorem kSwitch_m (x : Int32) : kSwitch x = if mIn x (nI 0) (nI 7) then 0 else 1 := by
  unfold kSwitch
  rw [cIsSwitch_m]
/-- the invariant between the class (q) and the reference (p) -/
def sI_ok (q p : gRF) (n d k t v : Nat) : Prop := mOK p.1 p.2 n d k t
def sI_f0 (q p : gRF) (n d k t v : Nat) : Prop := q.2 0 = nI v
def sI_f1 (q p : gRF) (n d k t v : Nat) : Prop := q.2 1 = nI t
def sI_f2 (q p : gRF) (n d k t v : Nat) : Prop := q.2 2 = nI d
def sI_f3 (q p : gRF) (n d k t v : Nat) : Prop := q.2 3 = nI n
def sI_f4 (q p : gRF) (n d k t v : Nat) : Prop := q.2 4 = nI k
def sI_f5 (q p : gRF) (n d k t v : Nat) : Prop := q.2 5 = p.2 5
def sI_v2 (q p : gRF) (n d k t v : Nat) : Prop := p.2 2 = nI v
def sI_v20 (q p : gRF) (n d k t v : Nat) : Prop := 1 ≤ v ∧ v ≤ 20
def sI_needs (q p : gRF) (n d k t v : Nat) : Prop := ∀ c, c < 8 → q.1 0 c = p.1 0 c ∧ ∃ b, b < 256 ∧ p.1 0 c = nI b
def sI_whole (q p : gRF) (n d k t v : Nat) : Prop := ∀ c, c < 8 → q.1 1 c = cGather q.1 (nI c)
def sI_always (q p : gRF) (n d k t v : Nat) : Prop := ∀ u, u < 20 → (q.1 2 u = nI 0 ∨ q.1 2 u = nI 1) ∧ (q.1 2 u = nI 1 ↔ ∃ i, i < d ∧ p.1 1 i = nI u ∧ p.1 2 i = -1)
def sI_onb (q p : gRF) (n d k t v : Nat) : Prop := ∀ u, u < 20 → ∃ b, b < 256 ∧ q.1 3 u = nI b ∧ ∀ c, c < 8 → (b.testBit c = true ↔ ∃ i, i < d ∧ p.1 1 i = nI u ∧ p.1 2 i = nI c ∧ p.1 3 i = nI 1)
def sI_offb (q p : gRF) (n d k t v : Nat) : Prop := ∀ u, u < 20 → ∃ b, b < 256 ∧ q.1 4 u = nI b ∧ ∀ c, c < 8 → (b.testBit c = true ↔ ∃ i, i < d ∧ p.1 1 i = nI u ∧ p.1 2 i = nI c ∧ p.1 3 i = nI 0)
def sI_defs (q p : gRF) (n d k t v : Nat) : Prop := ∀ i, i < d → (∃ u, u < v ∧ p.1 1 i = nI u) ∧ (p.1 2 i = -1 ∨ ∃ c, c < 8 ∧ p.1 2 i = nI c) ∧ (p.1 3 i = nI 0 ∨ p.1 3 i = nI 1)
def sI_chg (q p : gRF) (n d k t v : Nat) : Prop := ∀ c, c < n → q.1 5 c = p.1 4 c ∧ q.1 6 c = p.1 8 c ∧ q.1 8 c = p.1 7 c
def sI_sub (q p : gRF) (n d k t v : Nat) : Prop := ∀ c, c < n → ∃ s, s < 12 ∧ q.1 7 c = nI s ∧ ((s < 8 ∧ p.1 5 c = nI 0 ∧ p.1 6 c = nI s) ∨ (8 ≤ s ∧ p.1 5 c = nI 1 ∧ p.1 6 c = nI (s - 8)))
def sI_prev (q p : gRF) (n d k t v : Nat) : Prop := ∀ c, c < n → q.1 9 c = lastN c (fun j => decide (q.1 7 j = q.1 7 c))
def sI_last (q p : gRF) (n d k t v : Nat) : Prop := ∀ s, s < 12 → q.1 10 s = lastN n (fun j => decide (q.1 7 j = nI s))
def sI_vals (q p : gRF) (n d k t v : Nat) : Prop := ∀ c, c < n → (p.1 5 c = nI 0 ∧ ∃ y, y < 5 ∧ p.1 7 c = nI y) ∨ (p.1 5 c = nI 1 ∧ ∃ y, y < v ∧ p.1 7 c = nI y)
def sI_tims (q p : gRF) (n d k t v : Nat) : Prop := ∀ c, c < n → ∃ y, y ≤ t ∧ p.1 8 c = nI y
def sI_inc (q p : gRF) (n d k t v : Nat) : Prop := ∀ i, i < k → q.1 11 i = p.1 14 i ∧ q.1 12 i = p.1 15 i ∧ q.1 13 i = p.1 16 i ∧ q.1 14 i = p.1 17 i ∧ q.1 15 i = p.1 18 i
def sI_opn (q p : gRF) (n d k t v : Nat) : Prop := ∀ g, g < 4 → q.1 16 g = mOpen p.1 k (nI g)
def sI_hold (q p : gRF) (n d k t v : Nat) : Prop := ∀ w, w ≤ t / 14 + 1 → q.1 17 w = p.1 9 w
def sI_blot (q p : gRF) (n d k t v : Nat) : Prop := ∀ h, h < 6 → q.1 18 h = p.1 10 h ∧ ∃ y, y ≤ k ∧ p.1 10 h = nI y
def sI_rest (q p : gRF) (n d k t v : Nat) : Prop := ∀ h, h < 6 → (p.1 11 h = -1 ∧ q.1 19 h = -1) ∨ ∃ y, y ≤ t ∧ p.1 11 h = nI y ∧ q.1 19 h = nI (y + 12)
def sI_call (q p : gRF) (n d k t v : Nat) : Prop := ∀ h, h < 6 → q.1 20 h = p.1 12 h ∧ q.1 21 h = p.1 13 h
def sI (q p : gRF) (n d k t v : Nat) : Prop := sI_ok q p n d k t v ∧ sI_f0 q p n d k t v ∧ sI_f1 q p n d k t v ∧ sI_f2 q p n d k t v ∧ sI_f3 q p n d k t v ∧ sI_f4 q p n d k t v ∧ sI_f5 q p n d k t v ∧ sI_v2 q p n d k t v ∧ sI_v20 q p n d k t v ∧ sI_needs q p n d k t v ∧ sI_whole q p n d k t v ∧ sI_always q p n d k t v ∧ sI_onb q p n d k t v ∧ sI_offb q p n d k t v ∧ sI_defs q p n d k t v ∧ sI_chg q p n d k t v ∧ sI_sub q p n d k t v ∧ sI_prev q p n d k t v ∧ sI_last q p n d k t v ∧ sI_vals q p n d k t v ∧ sI_tims q p n d k t v ∧ sI_inc q p n d k t v ∧ sI_opn q p n d k t v ∧ sI_hold q p n d k t v ∧ sI_blot q p n d k t v ∧ sI_rest q p n d k t v ∧ sI_call q p n d k t v
theorem sI.ok {q p : gRF} {n d k t v : Nat} (h : sI q p n d k t v) : mOK p.1 p.2 n d k t := h.1
theorem sI.f0 {q p : gRF} {n d k t v : Nat} (h : sI q p n d k t v) : q.2 0 = nI v := h.2.1
theorem sI.f1 {q p : gRF} {n d k t v : Nat} (h : sI q p n d k t v) : q.2 1 = nI t := h.2.2.1
theorem sI.f2 {q p : gRF} {n d k t v : Nat} (h : sI q p n d k t v) : q.2 2 = nI d := h.2.2.2.1
theorem sI.f3 {q p : gRF} {n d k t v : Nat} (h : sI q p n d k t v) : q.2 3 = nI n := h.2.2.2.2.1
theorem sI.f4 {q p : gRF} {n d k t v : Nat} (h : sI q p n d k t v) : q.2 4 = nI k := h.2.2.2.2.2.1
theorem sI.f5 {q p : gRF} {n d k t v : Nat} (h : sI q p n d k t v) : q.2 5 = p.2 5 := h.2.2.2.2.2.2.1
theorem sI.v2 {q p : gRF} {n d k t v : Nat} (h : sI q p n d k t v) : p.2 2 = nI v := h.2.2.2.2.2.2.2.1
theorem sI.v20 {q p : gRF} {n d k t v : Nat} (h : sI q p n d k t v) : 1 ≤ v ∧ v ≤ 20 := h.2.2.2.2.2.2.2.2.1
theorem sI.needs {q p : gRF} {n d k t v : Nat} (h : sI q p n d k t v) : ∀ c, c < 8 → q.1 0 c = p.1 0 c ∧ ∃ b, b < 256 ∧ p.1 0 c = nI b := h.2.2.2.2.2.2.2.2.2.1
theorem sI.whole {q p : gRF} {n d k t v : Nat} (h : sI q p n d k t v) : ∀ c, c < 8 → q.1 1 c = cGather q.1 (nI c) := h.2.2.2.2.2.2.2.2.2.2.1
theorem sI.always {q p : gRF} {n d k t v : Nat} (h : sI q p n d k t v) : ∀ u, u < 20 → (q.1 2 u = nI 0 ∨ q.1 2 u = nI 1) ∧ (q.1 2 u = nI 1 ↔ ∃ i, i < d ∧ p.1 1 i = nI u ∧ p.1 2 i = -1) := h.2.2.2.2.2.2.2.2.2.2.2.1
theorem sI.onb {q p : gRF} {n d k t v : Nat} (h : sI q p n d k t v) : ∀ u, u < 20 → ∃ b, b < 256 ∧ q.1 3 u = nI b ∧ ∀ c, c < 8 → (b.testBit c = true ↔ ∃ i, i < d ∧ p.1 1 i = nI u ∧ p.1 2 i = nI c ∧ p.1 3 i = nI 1) := h.2.2.2.2.2.2.2.2.2.2.2.2.1
theorem sI.offb {q p : gRF} {n d k t v : Nat} (h : sI q p n d k t v) : ∀ u, u < 20 → ∃ b, b < 256 ∧ q.1 4 u = nI b ∧ ∀ c, c < 8 → (b.testBit c = true ↔ ∃ i, i < d ∧ p.1 1 i = nI u ∧ p.1 2 i = nI c ∧ p.1 3 i = nI 0) := h.2.2.2.2.2.2.2.2.2.2.2.2.2.1
theorem sI.defs {q p : gRF} {n d k t v : Nat} (h : sI q p n d k t v) : ∀ i, i < d → (∃ u, u < v ∧ p.1 1 i = nI u) ∧ (p.1 2 i = -1 ∨ ∃ c, c < 8 ∧ p.1 2 i = nI c) ∧ (p.1 3 i = nI 0 ∨ p.1 3 i = nI 1) := h.2.2.2.2.2.2.2.2.2.2.2.2.2.2.1
theorem sI.chg {q p : gRF} {n d k t v : Nat} (h : sI q p n d k t v) : ∀ c, c < n → q.1 5 c = p.1 4 c ∧ q.1 6 c = p.1 8 c ∧ q.1 8 c = p.1 7 c := h.2.2.2.2.2.2.2.2.2.2.2.2.2.2.2.1
theorem sI.sub {q p : gRF} {n d k t v : Nat} (h : sI q p n d k t v) : ∀ c, c < n → ∃ s, s < 12 ∧ q.1 7 c = nI s ∧ ((s < 8 ∧ p.1 5 c = nI 0 ∧ p.1 6 c = nI s) ∨ (8 ≤ s ∧ p.1 5 c = nI 1 ∧ p.1 6 c = nI (s - 8))) := h.2.2.2.2.2.2.2.2.2.2.2.2.2.2.2.2.1
theorem sI.prev {q p : gRF} {n d k t v : Nat} (h : sI q p n d k t v) : ∀ c, c < n → q.1 9 c = lastN c (fun j => decide (q.1 7 j = q.1 7 c)) := h.2.2.2.2.2.2.2.2.2.2.2.2.2.2.2.2.2.1
theorem sI.last {q p : gRF} {n d k t v : Nat} (h : sI q p n d k t v) : ∀ s, s < 12 → q.1 10 s = lastN n (fun j => decide (q.1 7 j = nI s)) := h.2.2.2.2.2.2.2.2.2.2.2.2.2.2.2.2.2.2.1
theorem sI.vals {q p : gRF} {n d k t v : Nat} (h : sI q p n d k t v) : ∀ c, c < n → (p.1 5 c = nI 0 ∧ ∃ y, y < 5 ∧ p.1 7 c = nI y) ∨ (p.1 5 c = nI 1 ∧ ∃ y, y < v ∧ p.1 7 c = nI y) := h.2.2.2.2.2.2.2.2.2.2.2.2.2.2.2.2.2.2.2.1
theorem sI.tims {q p : gRF} {n d k t v : Nat} (h : sI q p n d k t v) : ∀ c, c < n → ∃ y, y ≤ t ∧ p.1 8 c = nI y := h.2.2.2.2.2.2.2.2.2.2.2.2.2.2.2.2.2.2.2.2.1
theorem sI.inc {q p : gRF} {n d k t v : Nat} (h : sI q p n d k t v) : ∀ i, i < k → q.1 11 i = p.1 14 i ∧ q.1 12 i = p.1 15 i ∧ q.1 13 i = p.1 16 i ∧ q.1 14 i = p.1 17 i ∧ q.1 15 i = p.1 18 i := h.2.2.2.2.2.2.2.2.2.2.2.2.2.2.2.2.2.2.2.2.2.1
theorem sI.opn {q p : gRF} {n d k t v : Nat} (h : sI q p n d k t v) : ∀ g, g < 4 → q.1 16 g = mOpen p.1 k (nI g) := h.2.2.2.2.2.2.2.2.2.2.2.2.2.2.2.2.2.2.2.2.2.2.1
theorem sI.hold {q p : gRF} {n d k t v : Nat} (h : sI q p n d k t v) : ∀ w, w ≤ t / 14 + 1 → q.1 17 w = p.1 9 w := h.2.2.2.2.2.2.2.2.2.2.2.2.2.2.2.2.2.2.2.2.2.2.2.1
theorem sI.blot {q p : gRF} {n d k t v : Nat} (h : sI q p n d k t v) : ∀ h, h < 6 → q.1 18 h = p.1 10 h ∧ ∃ y, y ≤ k ∧ p.1 10 h = nI y := h.2.2.2.2.2.2.2.2.2.2.2.2.2.2.2.2.2.2.2.2.2.2.2.2.1
theorem sI.rest {q p : gRF} {n d k t v : Nat} (h : sI q p n d k t v) : ∀ h, h < 6 → (p.1 11 h = -1 ∧ q.1 19 h = -1) ∨ ∃ y, y ≤ t ∧ p.1 11 h = nI y ∧ q.1 19 h = nI (y + 12) := h.2.2.2.2.2.2.2.2.2.2.2.2.2.2.2.2.2.2.2.2.2.2.2.2.2.1
theorem sI.call {q p : gRF} {n d k t v : Nat} (h : sI q p n d k t v) : ∀ h, h < 6 → q.1 20 h = p.1 12 h ∧ q.1 21 h = p.1 13 h := h.2.2.2.2.2.2.2.2.2.2.2.2.2.2.2.2.2.2.2.2.2.2.2.2.2.2
