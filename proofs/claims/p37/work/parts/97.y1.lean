section S97
variable {q p : gRF} {n d k t v : Nat}
theorem y_start : sY (cR0, cF0) (mR0, mF0) 0 0 0 0 1 := by
  refine ⟨s_start, ?_, fun c hc => absurd hc (Nat.not_lt_zero c), ?_, ⟨fun _ => 0, fun _ _ => rfl, Nat.le_refl _⟩, ⟨fun _ => 0, fun _ => 0, 0, fun _ _ => rfl, fun _ _ => rfl, rfl, Nat.le_refl _⟩, fun i hi => absurd hi (Nat.not_lt_zero i)⟩
  · intro c hc y hy
    have hy : bB (nI 0) y = true := hy
    rw [nI_0, bB_0] at hy
    cases hy
  · show ¬ mR0 9 0 = mR0 9 1
    decide
theorem y_build (h : sY q p n d k t v) (hv : v < 20) : kBuild q.2 = 0 ∧ sY (q.1, upF q.2 0 (q.2 0 + nI 1)) (p.1, upF (upF p.2 0 (nI 0)) 2 (p.2 2 + nI 1)) n d k t (v + 1) := by
  obtain ⟨⟨h, hnew, hone⟩, hN, hV, hH, hB, hC, hO⟩ := h
  have h0 := h.f0
  have h2 := h.v2
  refine ⟨?_, ?_, hN, hV, hH, hB, hC, hO⟩
  · unfold kBuild
    rw [h0, if_pos ((nI_ltI (by omega) (by decide)).mpr hv)]
  · rw [h0, h2, nI_add]
    have hdefs : ∀ i, i < d → (∃ u, u < v + 1 ∧ p.1 1 i = nI u) ∧ (p.1 2 i = -1 ∨ ∃ c, c < 8 ∧ p.1 2 i = nI c) ∧ (p.1 3 i = nI 0 ∨ p.1 3 i = nI 1) := fun i hi => by
      obtain ⟨⟨u, a, b⟩, c⟩ := h.defs i hi
      exact ⟨⟨u, by omega, b⟩, c⟩
    have hvals : ∀ c, c < n → (p.1 5 c = nI 0 ∧ ∃ y, y < 5 ∧ p.1 7 c = nI y) ∨ (p.1 5 c = nI 1 ∧ ∃ y, y < v + 1 ∧ p.1 7 c = nI y) := fun c hc => by
      rcases h.vals c hc with a | ⟨a, y, b, c⟩
      · exact Or.inl a
      · exact Or.inr ⟨a, y, by omega, c⟩
    have hv20 : 1 ≤ v + 1 ∧ v + 1 ≤ 20 := ⟨by omega, by omega⟩
    exact ⟨⟨h.ok, rfl, h.f1, h.f2, h.f3, h.f4, h.f5, rfl, hv20, h.needs, h.whole, h.always, h.onb, h.offb, hdefs, h.chg, h.sub, h.prev, h.last, hvals, h.tims, h.inc, h.opn, h.hold, h.blot, h.rest, h.call⟩, hnew, hone⟩
theorem mIn_ok {j b : Nat} (h : j ≤ b) (hb : b < 2 ^ 31) : mIn (nI j) (nI 0) (nI b) = true := by
  unfold mIn
  rw [nI_0, if_neg (fun z => by rw [Int32.lt_iff_toInt_lt, nI_toInt (by omega), Int32.toInt_zero] at z; omega), if_neg (fun z => by have := (nI_ltI (a := b) (b := j) hb (by omega)).mp z; omega)]
theorem kPerson_0 {m : Nat} (h : m < 6) : kPerson (nI m) = 0 := by rw [kPerson_m, mIn_ok (show m ≤ 5 by omega) (by decide)]; rfl
theorem kRing_0 {g : Nat} (h : g < 4) : kRing (nI g) = 0 := by rw [kRing_m, mIn_ok (show g ≤ 3 by omega) (by decide)]; rfl
theorem kSwitch_0 {s : Nat} (h : s < 8) : kSwitch (nI s) = 0 := by rw [kSwitch_m, mIn_ok (show s ≤ 7 by omega) (by decide)]; rfl
theorem kBelow_0 {x v : Nat} (h : x < v) (hv : v < 2 ^ 31) : kBelow (nI v) (nI x) = 0 := by
  unfold kBelow
  rw [if_neg (fun z => by rw [Int32.lt_iff_toInt_lt, nI_toInt (by omega), Int32.toInt_zero] at z; omega), if_pos ((nI_ltI (by omega) hv).mpr h)]
theorem kHolder_0 {f : Nat → Int32} {t w : Nat} (ht : f 1 = nI t) (ht2 : t ≤ 560) (hw : w ≤ t / 14 + 1) : kHolder f (nI w) = 0 := by
  unfold kHolder
  rw [if_neg (fun z => by rw [Int32.lt_iff_toInt_lt, nI_toInt (by omega), Int32.toInt_zero] at z; omega), ht, pk_div (by omega) (by decide) (by decide), nI_add, if_pos ((nI_leI (by omega) (by omega)).mpr hw)]
/-- a switch, or none -/
theorem sw_x2 {w : Nat} (hw : w < 9) : nI w - nI 1 = -1 ∨ ∃ c, c < 8 ∧ nI w - nI 1 = nI c := by
  cases w with
  | zero => exact Or.inl (by decide)
  | succ w => exact Or.inr ⟨w, by omega, by rw [nI_subN (by omega)]; rfl⟩
theorem y_def (h : sY q p n d k t v) (hd9 : d < 24) {u : Nat} {x2 : Int32} {x3 : Bool} (hu : u < v) (hx : x2 = -1 ∨ ∃ c, c < 8 ∧ x2 = nI c) : kDefect q.2 (nI u) x2 = 0 ∧ sY (cDefR q.1 (nI u) x2 x3, upF q.2 2 (q.2 2 + nI 1)) (mDefR p.1 d (nI u) x2 x3, upF (upF p.2 0 (nI 0)) 3 (p.2 3 + nI 1)) n (d + 1) k t v := by
  obtain ⟨hs, hN, hV, hH, hB, hC, hO⟩ := h
  have hv := hs.1.v20
  refine ⟨?_, s_def hs hd9 hu hx, hN, yV_rows ?_ ?_ hV, hH, hB, hC, hO⟩
  · unfold kDefect
    rw [hs.1.f0, kBelow_0 hu (by omega), hs.1.f2, if_pos ((nI_ltI (by omega) (by decide)).mpr hd9)]
    rcases hx with e | ⟨c, hc, e⟩
    · rw [if_pos e]; rfl
    · rw [e, if_neg (nI_ne_m1 (by omega)), kSwitch_0 hc]; rfl
  · show cDefR q.1 (nI u) x2 x3 8 = q.1 8
    unfold cDefR
    split
    · rfl
    · split <;> rfl
  · show cDefR q.1 (nI u) x2 x3 9 = q.1 9
    unfold cDefR
    split
    · rfl
    · split <;> rfl
theorem mBits_le : ∀ c : Fin 8, ∀ b : Fin 128, b.val < 2 ^ c.val → (mBits (nI b.val)).toInt ≤ (c.val : Int) := by decide +kernel
theorem y_need (h : sY q p n d k t v) {c1 c2 : Nat} (h1 : c1 < 8) (h2 : c2 < c1) (x3 : Bool) : kNeed q.1 (nI c1) (nI c2) x3 = 0 ∧ sY (cPutW (cPutN q.1 (nI c1) (nI c2) x3) 8, q.2) (mNdR p.1 (nI c1) (nI c2) x3, upF p.2 0 (nI 0)) n d k t v ∧ cBitCount (rAt 8 (cPutN q.1 (nI c1) (nI c2) x3 0) (nI c1)) ≤ nI c1 := by
  obtain ⟨hs, hN, hV, hH, hB, hC, hO⟩ := h
  obtain ⟨g1, g2⟩ := s_ned hs h1 (show c2 < 8 by omega) x3
  have eV : mNdR p.1 (nI c1) (nI c2) x3 = upR p.1 0 (upd (p.1 0) c1 (cWithBit (p.1 0 c1) (nI c2) x3)) := by
    unfold mNdR mNdV
    rw [show cN (nI c1) = c1 from nI_clamp (by omega)]
    unfold cWithBit
    rfl
  have hN2 : ∀ c, c < 8 → ∀ y, bB (mNdR p.1 (nI c1) (nI c2) x3 0 c) y = true → y < c := fun c hc y hy => by
    rw [eV] at hy
    have hy : bB (upd (p.1 0) c1 (cWithBit (p.1 0 c1) (nI c2) x3) c) y = true := hy
    by_cases e : c = c1
    · subst e
      rw [upd_s] at hy
      by_cases ey : y < 32
      · rw [bB_with (by omega) ey] at hy
        by_cases e2 : y = c2
        · omega
        · rw [if_neg e2] at hy
          exact hN c hc y hy
      · rw [bB_ge (by omega)] at hy
        cases hy
    · rw [upd_n e] at hy
      exact hN c hc y hy
  refine ⟨?_, ⟨g1, hN2, hV, hH, hB, hC, hO⟩, ?_⟩
  · unfold kNeed
    rw [kSwitch_0 h1, kSwitch_0 (show c2 < 8 by omega), kT_00, kT_00, if_neg (fun z => by have := (nI_iff (by omega) (by omega)).mp z; omega)]
    cases x3 with
    | false => rfl
    | true =>
      rw [if_pos rfl]
      have hr : ∀ c, c < 8 → Lo (q.1 0 c) := fun c hc => by
        obtain ⟨e, b, hb, e2⟩ := hs.1.needs c hc
        exact Lo_of (e.trans e2) hb
      have h9 : cHasBit (rAt 8 (q.1 1) (nI c2)) (nI c1) = false := by
        rw [rAt_in (show c2 < 8 by omega) (by decide), hs.1.whole c2 (by omega)]
        show decide _ = false
        rw [bB_has _ (by omega)]
        cases e : bB (cGather q.1 (nI c2)) c1 with
        | false => rfl
        | true =>
          have h8 := (gather_clo hr (show c2 < 8 by omega)).2.2 (fun y => y ≤ c2) (fun c hc hS y hy => by
            have h7 : c ≤ c2 := hS
            rw [(hs.1.needs c hc).1] at hy
            have h6 := hN c hc y hy
            show y ≤ c2
            omega) (Nat.le_refl c2) c1 e
          have h8 : c1 ≤ c2 := h8
          omega
      rw [if_neg (by rw [h9]; decide)]
  · rw [g2]
    obtain ⟨b, hb, eb⟩ := (g1.1.needs c1 h1).2
    have eb : mNdR p.1 (nI c1) (nI c2) x3 0 c1 = nI b := eb
    have hlt : b < 2 ^ c1 := Nat.lt_pow_two_of_testBit b (fun i hi => by
      by_cases e8 : i < 8
      · cases e : b.testBit i with
        | false => rfl
        | true =>
          have h9 := hN2 c1 h1 i (by rw [eb, bB_tb hb e8]; exact e)
          omega
      · exact Nat.testBit_lt_two_pow (Nat.lt_of_lt_of_le hb (show 256 ≤ 2 ^ i from Nat.pow_le_pow_right (n := 2) (by decide) (show 8 ≤ i by omega))))
    have h128 : b < 128 := Nat.lt_of_lt_of_le hlt (show 2 ^ c1 ≤ 128 from Nat.pow_le_pow_right (n := 2) (by decide) (show c1 ≤ 7 by omega))
    rw [eb, Int32.le_iff_toInt_le, nI_toInt (by omega)]
    exact mBits_le ⟨c1, h1⟩ ⟨b, h128⟩ hlt
theorem cAddR_eq (h : sI q p n d k t v) (hn9 : n < 200) {m s y : Nat} (hs : s < 12) : cAddR q.1 q.2 (nI m) (q.2 1) (nI s) (nI y) = upR (upR (upR (upR (upR (upR q.1 5 (upd (q.1 5) n (nI m))) 6 (upd (q.1 6) n (nI t))) 7 (upd (q.1 7) n (nI s))) 8 (upd (q.1 8) n (nI y))) 9 (upd (q.1 9) n (q.1 10 s))) 10 (upd (q.1 10) s (nI n)) := by
  unfold cAddR
  rw [h.f3, h.f1, rPut_in hn9 (by decide), rPut_in hn9 (by decide), rPut_in hn9 (by decide), rPut_in hn9 (by decide), rPut_in hn9 (by decide), rAt_in hs (by decide), rPut_in hs (by decide)]
theorem y_prev (h : sI q p n d k t v) {c : Nat} (hc : c < n) : q.1 9 c = -1 ∨ ∃ j, j < c ∧ q.1 9 c = nI j := by
  by_cases e : q.1 9 c = -1
  · exact Or.inl e
  · rw [h.prev c hc] at e ⊢
    obtain ⟨j, h1, h2, -⟩ := lastN_ex e
    exact Or.inr ⟨j, h1, h2⟩
theorem y_last (h : sI q p n d k t v) {s : Nat} (hs : s < 12) : q.1 10 s = -1 ∨ ∃ j, j < n ∧ q.1 10 s = nI j := by
  by_cases e : q.1 10 s = -1
  · exact Or.inl e
  · rw [h.last s hs] at e ⊢
    obtain ⟨j, h1, h2, -⟩ := lastN_ex e
    exact Or.inr ⟨j, h1, h2⟩
theorem cPrv_upd {q q2 : gRF} {c N : Nat} {y : Int32} (hN : N < 200) (h8 : q2.1 8 = upd (q.1 8) N y) {a : Int32} (h9 : q2.1 9 c = a) (ha : a = -1 ∨ ∃ j, j < N ∧ a = nI j) : cPrv q2 c = if a = -1 then nI 0 else rAt 200 (q.1 8) a := by
  unfold cPrv
  rw [h9, h8]
  rcases ha with e | ⟨j, hj, e⟩
  · rw [if_pos e, if_pos e]
  · have e9 : ¬ a = -1 := by rw [e]; exact nI_ne_m1 (by omega)
    rw [if_neg e9, if_neg e9, e, rAt_in (by omega) (by decide), rAt_in (by omega) (by decide), upd_n (by omega)]
theorem y_add (h : sY q p n d k t v) (hn9 : n < 200) {m s y : Nat} (hm : m < 6) (hs : s < 12) (hy1 : s < 8 → y < 5) (hy2 : ¬ s < 8 → y < v) (hne : ¬ cValueNow q.1 (nI s) = nI y) :
    ∃ q2, q2 = ((cAddR q.1 q.2 (nI m) (q.2 1) (nI s) (nI y), upF q.2 3 (q.2 3 + nI 1)) : gRF) ∧ (∃ p2, sY q2 p2 (n + 1) d k t v) ∧ cValueNow q2.1 (nI s) = nI y ∧ rAt 200 (q2.1 7) (nI n) = nI s ∧ rAt 200 (q2.1 5) (nI n) = nI m ∧ rAt 200 (q2.1 8) (nI n) = nI y ∧ rAt 200 (q2.1 6) (nI n) = nI t := by
  obtain ⟨hX, hN, hV, hH, hB, hC, hO⟩ := h
  refine ⟨_, rfl, ⟨_, s_add hX hn9 hm hs hy1 hy2, hN, ?_, hH, hB, hC, hO⟩, ?_, ?_, ?_, ?_, ?_⟩
  · show yV (cAddR q.1 q.2 (nI m) (q.2 1) (nI s) (nI y), upF q.2 3 (q.2 3 + nI 1)) (n + 1)
    rw [cAddR_eq hX.1 hn9 hs]
    intro c hc
    by_cases e : c = n
    · subst e
      rw [cPrv_upd (q := q) (N := c) (y := nI y) hn9 rfl (a := q.1 10 s) (by show upd (q.1 9) c (q.1 10 s) c = _; rw [upd_s]) (y_last hX.1 hs)]
      show ¬ upd (q.1 8) c (nI y) c = _
      rw [upd_s]
      intro z
      apply hne
      unfold cValueNow
      rw [rAt_in hs (by decide), z]
    · have hc2 : c < n := by omega
      rw [cPrv_upd (q := q) (N := n) (y := nI y) hn9 rfl (a := q.1 9 c) (by show upd (q.1 9) n (q.1 10 s) c = _; rw [upd_n e]) ((y_prev hX.1 hc2).imp id (fun ⟨j, h1, h2⟩ => ⟨j, by omega, h2⟩))]
      show ¬ upd (q.1 8) n (nI y) c = _
      rw [upd_n e]
      exact hV c hc2
  · show cValueNow (cAddR q.1 q.2 (nI m) (q.2 1) (nI s) (nI y)) (nI s) = _
    rw [cAddR_eq hX.1 hn9 hs]
    unfold cValueNow
    rw [rAt_in hs (by decide)]
    show (if upd (q.1 10) s (nI n) s = -1 then nI 0 else rAt 200 (upd (q.1 8) n (nI y)) (upd (q.1 10) s (nI n) s)) = _
    rw [upd_s, if_neg (nI_ne_m1 (by omega)), rAt_in hn9 (by decide), upd_s]
  · show rAt 200 (cAddR q.1 q.2 (nI m) (q.2 1) (nI s) (nI y) 7) (nI n) = _
    rw [cAddR_eq hX.1 hn9 hs, rAt_in hn9 (by decide)]
    exact upd_s _ _ _
  · show rAt 200 (cAddR q.1 q.2 (nI m) (q.2 1) (nI s) (nI y) 5) (nI n) = _
    rw [cAddR_eq hX.1 hn9 hs, rAt_in hn9 (by decide)]
    exact upd_s _ _ _
  · show rAt 200 (cAddR q.1 q.2 (nI m) (q.2 1) (nI s) (nI y) 8) (nI n) = _
    rw [cAddR_eq hX.1 hn9 hs, rAt_in hn9 (by decide)]
    exact upd_s _ _ _
  · show rAt 200 (cAddR q.1 q.2 (nI m) (q.2 1) (nI s) (nI y) 6) (nI n) = _
    rw [cAddR_eq hX.1 hn9 hs, rAt_in hn9 (by decide)]
    exact upd_s _ _ _
def scS (s : Nat) : Nat := if s < 8 then s else s + 2
theorem cChg {r : Nat → Nat → Int32} {x : Int32} {s m y : Nat} (hs : s < 12) (h7 : rAt 200 (r 7) x = nI s) (h5 : rAt 200 (r 5) x = nI m) (h8 : rAt 200 (r 8) x = nI y) : cChange r x = nI (10000 * m + 100 * scS s + y) := by
  unfold cChange
  rw [h7, h5, h8, cIsSwitch_m]
  by_cases e : s < 8
  · rw [mIn_ok (show s ≤ 7 by omega) (by decide), if_pos rfl, pk_mul, pk_mul, nI_add, nI_add]
    unfold scS
    rw [if_pos e]
    exact congrArg nI (by omega)
  · have e1 : mIn (nI s) (nI 0) (nI 7) = false := by
      unfold mIn
      rw [nI_0, if_neg (fun z => by rw [Int32.lt_iff_toInt_lt, nI_toInt (by omega), Int32.toInt_zero] at z; omega), if_pos ((nI_ltI (by decide) (by omega)).mpr (by omega))]
    rw [e1, if_neg (by decide), nI_subN (by omega), pk_mul, pk_mul, nI_add, nI_add, nI_add]
    unfold scS
    rw [if_neg e]
    exact congrArg nI (by omega)
theorem kCan_0 (h : sI q p n d k t v) {m : Nat} (hr : cRest q.1 (nI m) (q.2 1) = false) (hn9 : n < 200) : kCan q.1 q.2 (nI m) = 0 := by
  unfold kCan
  rw [if_neg (by rw [hr]; decide), h.f3, if_pos ((nI_ltI (by omega) (by decide)).mpr hn9)]
theorem y_turn (h : sY q p n d k t v) (hn9 : n < 200) {m s y : Nat} (hm : m < 6) (hs : s < 8) (hy : y < 5) (hr : cRest q.1 (nI m) (q.2 1) = false) (hne : ¬ cValueNow q.1 (nI s) = nI y) : kTurn q.1 q.2 (nI m) (nI s) (nI y) = 0 := by
  unfold kTurn
  rw [kPerson_0 hm, kSwitch_0 hs, kT_00, kT_00, if_neg (fun z => by rw [Int32.lt_iff_toInt_lt, nI_toInt (by omega), Int32.toInt_zero] at z; omega), if_pos ((nI_leI (by omega) (by decide)).mpr (by omega)), kCan_0 h.1.1 hr hn9, if_neg hne]
  rfl
/-- what is rollable can be rolled -/
theorem y_rollable (h : sY q p n d k t v) {g : Nat} (hg : g < 4) : cRollable q.1 q.2 (nI g) = -1 ∨ ∃ y, y < v ∧ cRollable q.1 q.2 (nI g) = nI y ∧ ¬ cRuns q.1 (nI g) = nI y ∧ cHeld q.1 q.2 (nI g) (nI y) (cN (nI g)) = false := by
  have hI := h.1.1
  have hv := hI.v20
  have hx : ∃ y, y < v ∧ cNx q.1 q.2 (nI g) = nI y := by
    unfold cNx
    by_cases e : g = 0
    · rw [if_pos (by rw [e]; rfl), hI.f0, nI_subN (by omega)]
      exact ⟨v - 1, by omega, rfl⟩
    · rw [if_neg (nI_ne0 (by omega) (by omega)), nI_subN (by omega), s_runs hI (by omega)]
      exact s_valR hI _ _
  obtain ⟨y, hy, ey⟩ := hx
  have e : cRollable q.1 q.2 (nI g) = if cRuns q.1 (nI g) = cNx q.1 q.2 (nI g) then -1 else if cHeld q.1 q.2 (nI g) (cNx q.1 q.2 (nI g)) (cN (nI g)) then -1 else cNx q.1 q.2 (nI g) := rfl
  rw [e, ey]
  by_cases e1 : cRuns q.1 (nI g) = nI y
  · rw [if_pos e1]; exact Or.inl rfl
  · rw [if_neg e1]
    cases e2 : cHeld q.1 q.2 (nI g) (nI y) (cN (nI g)) with
    | true => rw [if_pos rfl]; exact Or.inl rfl
    | false => rw [if_neg (by decide)]; exact Or.inr ⟨y, hy, rfl, e1, e2⟩
theorem y_roll (h : sY q p n d k t v) (hn9 : n < 200) {m g y : Nat} (hm : m < 6) (hg : g < 4) (hy : y < v) (hr : cRest q.1 (nI m) (q.2 1) = false) (hne : ¬ cRuns q.1 (nI g) = nI y) (hh : cHeld q.1 q.2 (nI g) (nI y) (cN (nI g)) = false) : kRoll q.1 q.2 (nI m) (nI g) (nI y) = 0 := by
  have hv := h.1.1.v20
  unfold kRoll
  rw [kPerson_0 hm, kRing_0 hg, kT_00, kT_00, h.1.1.f0, kBelow_0 hy (by omega), kT_00, kCan_0 h.1.1 hr hn9, kT_00, if_neg hne, hh]
  rfl
/-- the latest change of all can be reverted -/
theorem y_revert (h : sY q p n d k t v) (hn0 : 0 < n) (hn9 : n < 200) {m : Nat} (hm : m < 6) (hr : cRest q.1 (nI m) (q.2 1) = false) : kRevert q.1 q.2 (nI m) (nI (n - 1)) = 0 ∧ ∃ s y y0 m0, s < 12 ∧ m0 < 6 ∧ y < 100 ∧ y0 < 100 ∧ ¬ y = y0 ∧ (s < 8 → y < 5) ∧ (¬ s < 8 → y < v) ∧ rAt 200 (q.1 7) (nI (n - 1)) = nI s ∧ rAt 200 (q.1 5) (nI (n - 1)) = nI m0 ∧ rAt 200 (q.1 8) (nI (n - 1)) = nI y0 ∧ cWithout q.1 (nI (n - 1)) = nI y ∧ ¬ cValueNow q.1 (nI s) = nI y := by
  obtain ⟨hX, hN, hV, hH, hB, hC, hO⟩ := h
  have hI := hX.1
  obtain ⟨hn, hn2, hd, hd2, hk, hk2, ht, ht2, hh, hmk⟩ := id hI.ok
  have hv := hI.v20
  obtain ⟨s, hs, e7, e5, e6⟩ := s_subj hI (show n - 1 < n by omega)
  have r7 : rAt 200 (q.1 7) (nI (n - 1)) = nI s := by rw [rAt_in (by omega) (by decide), e7]
  have e10 : q.1 10 s = nI (n - 1) := by
    rw [hI.last s hs]
    obtain ⟨j, hj⟩ : ∃ j, n = j + 1 := ⟨n - 1, by omega⟩
    subst hj
    exact lastN_st (decide_eq_true e7)
  have r10 : rAt 12 (q.1 10) (nI s) = nI (n - 1) := by rw [rAt_in hs (by decide), e10]
  obtain ⟨m0, hm0, em0⟩ := hmk (n - 1) (by omega)
  obtain ⟨c1, c2, c3⟩ := hI.chg (n - 1) (by omega)
  obtain ⟨y, hy1, hy2, ey⟩ := s_valB hI s (nI (n - 1))
  have eW : cWithout q.1 (nI (n - 1)) = nI y := (s_val_wo hI (show n - 1 < n by omega) hs e7).trans ey
  have eW2 : cWithout q.1 (nI (n - 1)) = cPrv q (n - 1) := by
    unfold cWithout cOther cPrv
    rw [r7, r10, if_pos rfl, rAt_in (show n - 1 < 200 by omega) (by decide)]
  have hval : ∃ y0, y0 < 100 ∧ q.1 8 (n - 1) = nI y0 := by
    rw [c3]
    rcases hI.vals (n - 1) (by omega) with ⟨-, a, b, c⟩ | ⟨-, a, b, c⟩
    · exact ⟨a, by omega, c⟩
    · exact ⟨a, by omega, c⟩
  obtain ⟨y0, hy0, ey0⟩ := hval
  have hne : ¬ y = y0 := fun z => hV (n - 1) (by omega) (by rw [← eW2, eW, ey0, z])
  have hy100 : y < 100 := by
    by_cases e8 : s < 8
    · have := hy1 e8; omega
    · have := hy2 e8; omega
  refine ⟨?_, s, y, y0, m0, hs, hm0, hy100, hy0, hne, hy1, hy2, r7, ?_, ?_, eW, ?_⟩
  · unfold kRevert
    rw [kPerson_0 hm, kT_00, hI.f3, kBelow_0 (show n - 1 < n by omega) (by omega), kT_00, kCan_0 hI hr hn9, kT_00, r7, r10, if_pos rfl]
  · rw [rAt_in (by omega) (by decide), c1, em0]
  · rw [rAt_in (by omega) (by decide), ey0]
  · unfold cValueNow
    rw [r10, if_neg (nI_ne_m1 (by omega)), rAt_in (by omega) (by decide), ey0]
    exact fun z => hne ((nI_iff (by omega) (by omega)).mp z).symm
theorem y_take (h : sY q p n d k t v) {m : Nat} (hm : m < 6) (h1 : ¬ nI m = rAt 42 (q.1 17) (nI (t / 14))) (h2 : ¬ nI m = rAt 42 (q.1 17) (nI (t / 14) + nI 1)) : kTake q.1 q.2 (nI m) = 0 ∧ (∃ p2, sY (upR q.1 17 (rPut 42 (q.1 17) (q.2 1 / nI 14 + nI 1) (nI m)), q.2) p2 n d k t v) ∧ rAt 42 (rPut 42 (q.1 17) (q.2 1 / nI 14 + nI 1) (nI m)) (nI (t / 14) + nI 1) = nI m := by
  obtain ⟨⟨h, hnew, hone⟩, hN, hV, hH, hB, hC, hO⟩ := h
  obtain ⟨hn, hn2, hd, hd2, hk, hk2, ht, ht2, hh, hmk⟩ := id h.ok
  have e9 : q.2 1 / nI 14 = nI (t / 14) := by rw [h.f1, pk_div (by omega) (by decide) (by decide)]
  rw [e9, nI_add, rPut_in (show t / 14 + 1 < 42 by omega) (by decide)]
  rw [nI_add] at h2
  have a1 := h1
  have a2 := h2
  rw [rAt_in (show t / 14 < 42 by omega) (by decide), h.hold (t / 14) (by omega)] at a1
  rw [rAt_in (show t / 14 + 1 < 42 by omega) (by decide), h.hold (t / 14 + 1) (by omega)] at a2
  refine ⟨?_, ⟨(upR p.1 9 (upd (p.1 9) (t / 14 + 1) (nI m)), upF p.2 0 (nI 0)), ⟨?_, hnew, hone⟩, hN, hV, ?_, hB, hC, hO⟩, ?_⟩
  · unfold kTake
    rw [kPerson_0 hm, kT_00, e9, nI_add, if_neg h2, if_neg h1]
  · have hh2 : ∀ w, w ≤ t / 14 + 1 → ∃ a, a < 6 ∧ upd (p.1 9) (t / 14 + 1) (nI m) w = nI a := fun w hw => by
      by_cases e : w = t / 14 + 1
      · rw [e, upd_s]; exact ⟨m, hm, rfl⟩
      · rw [upd_n e]; exact hh w hw
    have hok : mOK (upR p.1 9 (upd (p.1 9) (t / 14 + 1) (nI m))) (upF p.2 0 (nI 0)) n d k t := ⟨hn, hn2, hd, hd2, hk, hk2, ht, ht2, hh2, hmk⟩
    have hhold : ∀ w, w ≤ t / 14 + 1 → upd (q.1 17) (t / 14 + 1) (nI m) w = upd (p.1 9) (t / 14 + 1) (nI m) w := fun w hw => by
      by_cases e : w = t / 14 + 1
      · rw [e, upd_s, upd_s]
      · rw [upd_n e, upd_n e]; exact h.hold w hw
    exact ⟨hok, h.f0, h.f1, h.f2, h.f3, h.f4, h.f5, h.v2, h.v20, h.needs, h.whole, h.always, h.onb, h.offb, h.defs, h.chg, h.sub, h.prev, h.last, h.vals, h.tims, h.inc, h.opn, hhold, h.blot, h.rest, h.call⟩
  · show ¬ upd (p.1 9) (t / 14 + 1) (nI m) (t / 14) = upd (p.1 9) (t / 14 + 1) (nI m) (t / 14 + 1)
    rw [upd_s, upd_n (by omega)]
    exact fun z => a1 z.symm
  · rw [rAt_in (show t / 14 + 1 < 42 by omega) (by decide), upd_s]
theorem y_pass0 (h : sY q p n d k t v) {j : Nat} (hj1 : 1 ≤ j) (hj : j ≤ 28) (htj : t + j ≤ 560) : kPass q.2 (nI j) = 0 ∧ ∃ p2 k2, sY (cPass (cN (nI j)) q) p2 n d k2 (t + j) v := by
  refine ⟨?_, ?_⟩
  · unfold kPass
    rw [if_neg (fun z => by have := (nI_ltI (by omega) (by decide)).mp z; omega), if_pos ((nI_leI (by omega) (by decide)).mpr hj), h.1.1.f1, nI_add, if_pos ((nI_leI (by omega) (by decide)).mpr htj)]
  · rw [show cN (nI j) = j from nI_clamp (by omega)]
    obtain ⟨k2, h2⟩ := y_pass h j htj
    exact ⟨_, k2, h2⟩
end S97
