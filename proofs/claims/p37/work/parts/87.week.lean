theorem nI_subN {a b : Nat} (h : b ≤ a) : nI a - nI b = nI (a - b) := by
  rw [show a = (a - b) + b by omega, ← nI_add]
  simp
theorem upR_id (r : Nat → Nat → Int32) (k : Nat) : upR r k (r k) = r := by
  funext j
  unfold upR
  cases h : Nat.beq j k with
  | false => rfl
  | true =>
    have := Nat.eq_of_beq_eq_true h
    subst this
    rfl
/-- of several the nearest with the lowest number: upwards by 'more than', downwards by 'no less than' -/
theorem s_nearest {rc rm : Nat → Nat → Int32} {w hh : Nat} (N : Nat → Nat) (hN : ∀ c, c < 6 → N c ≤ 1000) (hc : ∀ c, c < 6 → cNear rc (nI c) (w + 1) = nI (N c)) (hm : ∀ c, c < 6 → mNear rm c (w + 1) = nI (N c)) (h17 : rAt 42 (rc 17) (nI (w + 1) - nI 1) = nI hh) (h9 : rm 9 w = nI hh) (h6 : hh < 6) : cNearest rc (w + 1) = itN 6 (mBgI rm w) (-1) := by
  have asc : ∀ m, m ≤ 6 → (itN m (cNT rc (w + 1)) (-1, -1) = (-1, -1) ∧ ∀ c, c < m → c = hh) ∨ ∃ a, a < m ∧ ¬ a = hh ∧ itN m (cNT rc (w + 1)) (-1, -1) = (nI a, nI (N a)) ∧ (∀ c, c < m → ¬ c = hh → N c ≤ N a) ∧ (∀ c, c < a → ¬ c = hh → N c < N a) := by
    intro m
    induction m with
    | zero => intro _; exact Or.inl ⟨rfl, fun c h => by omega⟩
    | succ m ih =>
      intro hm6
      have e : ∀ u, cNT rc (w + 1) m u = if m = hh then u else if nI (N m) ≤ u.2 then u else (nI m, nI (N m)) := by
        intro u
        unfold cNT
        rw [h17, hc m (by omega)]
        by_cases e1 : m = hh
        · subst e1; rw [if_pos rfl, if_pos rfl]
        · rw [if_neg (fun z => e1 ((nI_iff (by omega) (by omega)).mp z)), if_neg e1]
      rw [itN_s, e]
      have hNm := hN m (by omega)
      by_cases e1 : m = hh
      · rw [if_pos e1]
        rcases ih (by omega) with ⟨a, b⟩ | ⟨a, h1, h2, h3, h4, h5⟩
        · refine Or.inl ⟨a, fun c hc => ?_⟩
          by_cases e2 : c = m
          · rw [e2, e1]
          · exact b c (by omega)
        · refine Or.inr ⟨a, by omega, h2, h3, fun c hc hn => ?_, h5⟩
          by_cases e2 : c = m
          · exact absurd (e2.trans e1) hn
          · exact h4 c (by omega) hn
      · rw [if_neg e1]
        rcases ih (by omega) with ⟨a, b⟩ | ⟨a, h1, h2, h3, h4, h5⟩
        · have h9 : ¬ nI (N m) ≤ (itN m (cNT rc (w + 1)) (-1, -1)).2 := by
            rw [a]
            show ¬ nI (N m) ≤ (-1 : Int32)
            rw [Int32.le_iff_toInt_le, nI_toInt (by omega), m1_toInt]
            omega
          rw [if_neg h9]
          refine Or.inr ⟨m, by omega, e1, rfl, fun c hc hn => ?_, fun c hc hn => absurd (b c hc) hn⟩
          by_cases e2 : c = m
          · rw [e2]; exact Nat.le_refl _
          · exact absurd (b c (by omega)) hn
        · rw [h3]
          dsimp only
          have hNa := hN a (by omega)
          by_cases e3 : N m ≤ N a
          · rw [if_pos (nI_le e3 (by omega))]
            refine Or.inr ⟨a, by omega, h2, rfl, fun c hc hn => ?_, h5⟩
            by_cases e2 : c = m
            · rw [e2]; exact e3
            · exact h4 c (by omega) hn
          · rw [if_neg (fun z => e3 ((nI_leI (by omega) (by omega)).mp z))]
            refine Or.inr ⟨m, by omega, e1, rfl, fun c hc hn => ?_, fun c hc hn => ?_⟩
            · by_cases e2 : c = m
              · rw [e2]; exact Nat.le_refl _
              · have := h4 c (by omega) hn; omega
            · have := h4 c hc hn; omega
  have desc : ∀ i, i ≤ 6 → (itN i (mBgI rm w) (-1) = -1 ∧ ∀ c, 6 - i ≤ c → c < 6 → c = hh) ∨ ∃ a, 6 - i ≤ a ∧ a < 6 ∧ ¬ a = hh ∧ itN i (mBgI rm w) (-1) = nI a ∧ (∀ c, 6 - i ≤ c → c < 6 → ¬ c = hh → N c ≤ N a) ∧ (∀ c, 6 - i ≤ c → c < a → ¬ c = hh → N c < N a) := by
    intro i
    induction i with
    | zero => intro _; exact Or.inl ⟨rfl, fun c h1 h2 => by omega⟩
    | succ i ih =>
      intro hi
      rw [itN_s]
      have hNm := hN (5 - i) (by omega)
      rcases ih (by omega) with ⟨a, b⟩ | ⟨a, h1, h2, h3, h4, h5, h7⟩
      · rw [a]
        unfold mBgI
        rw [h9]
        by_cases e1 : 5 - i = hh
        · rw [e1, if_pos rfl]
          refine Or.inl ⟨rfl, fun c hc hc6 => ?_⟩
          by_cases e2 : c = 5 - i
          · omega
          · exact b c (by omega) hc6
        · rw [if_neg (fun z => e1 ((nI_iff (by omega) (by omega)).mp z)), if_pos rfl]
          refine Or.inr ⟨5 - i, by omega, by omega, e1, rfl, fun c hc hc6 hn => ?_, fun c hc hca hn => by omega⟩
          by_cases e2 : c = 5 - i
          · rw [e2]; exact Nat.le_refl _
          · exact absurd (b c (by omega) hc6) hn
      · rw [h4]
        unfold mBgI
        rw [h9, nI_clamp (show a < 2 ^ 31 by omega), hm (5 - i) (by omega), hm a h2]
        have hNa := hN a h2
        by_cases e1 : 5 - i = hh
        · rw [e1, if_pos rfl]
          refine Or.inr ⟨a, by omega, h2, h3, rfl, fun c hc hc6 hn => ?_, fun c hc hca hn => ?_⟩
          · by_cases e2 : c = 5 - i
            · omega
            · exact h5 c (by omega) hc6 hn
          · by_cases e2 : c = 5 - i
            · omega
            · exact h7 c (by omega) hca hn
        · rw [if_neg (fun z => e1 ((nI_iff (by omega) (by omega)).mp z)), if_neg (nI_ne_m1 (by omega))]
          by_cases e3 : N (5 - i) < N a
          · rw [if_pos ((nI_ltI (by omega) (by omega)).mpr e3)]
            refine Or.inr ⟨a, by omega, h2, h3, rfl, fun c hc hc6 hn => ?_, fun c hc hca hn => ?_⟩
            · by_cases e2 : c = 5 - i
              · rw [e2]; omega
              · exact h5 c (by omega) hc6 hn
            · by_cases e2 : c = 5 - i
              · rw [e2]; exact e3
              · exact h7 c (by omega) hca hn
          · rw [if_neg (fun z => e3 ((nI_ltI (by omega) (by omega)).mp z))]
            refine Or.inr ⟨5 - i, by omega, by omega, e1, rfl, fun c hc hc6 hn => ?_, fun c hc hca hn => by omega⟩
            by_cases e2 : c = 5 - i
            · rw [e2]; exact Nat.le_refl _
            · have := h5 c (by omega) hc6 hn; omega
  unfold cNearest
  rcases asc 6 (Nat.le_refl _) with ⟨-, b⟩ | ⟨a, h1, h2, h3, h4, h5⟩
  · have b0 := b 0 (by omega)
    have b1 := b 1 (by omega)
    omega
  · rcases desc 6 (Nat.le_refl _) with ⟨-, b⟩ | ⟨a2, k1, k2, k3, k4, k5, k6⟩
    · exact absurd (b a (by omega) h1) h2
    · rw [h3, k4]
      show nI a = nI a2
      have x1 := h4 a2 k2 k3
      have x2 := k5 a (by omega) h1 h2
      by_cases e1 : a < a2
      · have := k6 a (by omega) e1 h2; omega
      · by_cases e2 : a2 < a
        · have := h5 a2 e2 k3; omega
        · rw [show a = a2 by omega]
/-- the invariant with what stands beyond the incidents, and at most one open a ring -/
def sX_new (q : gRF) (k : Nat) : Prop := ∀ i, k ≤ i → i < 200 → q.1 13 i = -1 ∧ q.1 15 i = -1
def sX_one (p : gRF) (k : Nat) : Prop := ∀ i j, i < k → j < k → p.1 14 i = p.1 14 j → p.1 16 i = -1 → p.1 16 j = -1 → i = j
def sX (q p : gRF) (n d k t v : Nat) : Prop := sI q p n d k t v ∧ sX_new q k ∧ sX_one p k
theorem mNear_pos {rm : Nat → Nat → Int32} {w x : Nat} (hw : w ≤ 42) (hb : ∃ y, y ≤ 200 ∧ rm 10 x = nI y) : ∃ m, m ≤ 1000 ∧ mNear rm x w = nI m := by
  obtain ⟨y, hy, e⟩ := hb
  unfold mNear mN1
  rw [e]
  by_cases e9 : lastN w (mNP rm x) = -1
  · rw [if_pos e9, nI_add, nI_add]
    exact ⟨w + 1 + y, by omega, rfl⟩
  · rw [if_neg e9]
    obtain ⟨j, h1, h2, -⟩ := lastN_ex e9
    rw [h2, nI_subN (by omega), nI_add]
    exact ⟨w - j + y, by omega, rfl⟩
section S87
variable {q p : gRF} {n d k t v : Nat}
theorem s_tM (h : sI q p n d k t v) : cTime q.2 = t ∧ cTime p.2 = t := by
  obtain ⟨-, -, -, -, -, -, ht, ht2, -⟩ := id h.ok
  exact ⟨by show (q.2 1).toNatClampNeg = t; rw [h.f1, nI_clamp (by omega)], by show (p.2 1).toNatClampNeg = t; rw [ht, nI_clamp (by omega)]⟩
theorem s_beg (h : sX q p n d k t v) (ht9 : t < 560) : sX (cBeg q) (mB0 p) n d k (t + 1) v := by
  obtain ⟨h, hnew, hone⟩ := h
  have hok := mB0_ok h.ok ht9
  obtain ⟨hn, hn2, hd, hd2, hk, hk2, ht, ht2, hh, hmk⟩ := id h.ok
  obtain ⟨hT1, hT2⟩ := s_tM h
  have e1 : q.2 1 + nI 1 = nI (t + 1) := by rw [h.f1, nI_add]
  have e2 : p.2 1 + nI 1 = nI (t + 1) := by rw [ht, nI_add]
  have htims : ∀ c, c < n → ∃ y, y ≤ t + 1 ∧ p.1 8 c = nI y := fun c hc => by
    obtain ⟨y, a, b⟩ := h.tims c hc
    exact ⟨y, by omega, b⟩
  have hrest : ∀ c, c < 6 → (p.1 11 c = -1 ∧ q.1 19 c = -1) ∨ ∃ y, y ≤ t + 1 ∧ p.1 11 c = nI y ∧ q.1 19 c = nI (y + 12) := fun c hc => by
    rcases h.rest c hc with a | ⟨y, a, b, c⟩
    · exact Or.inl a
    · exact Or.inr ⟨y, by omega, b, c⟩
  unfold cBeg mB0
  unfold mB0 at hok
  rw [hT2] at hok ⊢
  rw [hT1]
  unfold cBegR
  by_cases hw : (t + 1) % 14 = 0
  · rw [if_pos hw] at hok ⊢
    rw [if_pos hw]
    have hw1 : t / 14 + 1 = (t + 1) / 14 := by omega
    generalize hW : (t + 1) / 14 = w at *
    have hw40 : w ≤ 40 := by omega
    obtain ⟨x, hx, ex⟩ := hh w (by omega)
    have exq : q.1 17 w = nI x := (h.hold w (by omega)).trans ex
    have hcl : (p.1 9 w).toNatClampNeg = x := by rw [ex, nI_clamp (by omega)]
    have hB : ∀ c, c < 6 → upd (q.1 18) x (nI 0) c = upd (p.1 10) x (nI 0) c ∧ ∃ y, y ≤ k ∧ upd (p.1 10) x (nI 0) c = nI y := fun c hc => by
      by_cases e : c = x
      · subst e; rw [upd_s, upd_s]; exact ⟨rfl, 0, by omega, rfl⟩
      · rw [upd_n e, upd_n e]; exact h.blot c hc
    have e18 : rPut 6 (q.1 18) (rAt 42 (q.1 17) (nI w)) (nI 0) = upd (q.1 18) x (nI 0) := by
      rw [rAt_in (show w < 42 by omega) (by decide), exq, rPut_in hx (by decide)]
    have hX : cNearest (upR q.1 18 (upd (q.1 18) x (nI 0))) (w + 1) = itN 6 (mBgI (upR p.1 10 (upd (p.1 10) x (nI 0))) w) (-1) := by
      have hpos : ∀ c, ∃ m, m ≤ 1000 ∧ (c < 6 → mNear (upR p.1 10 (upd (p.1 10) x (nI 0))) c (w + 1) = nI m) := fun c => by
        by_cases hc : c < 6
        · obtain ⟨m, a, b⟩ := mNear_pos (rm := upR p.1 10 (upd (p.1 10) x (nI 0))) (w := w + 1) (x := c) (by omega) (by
            obtain ⟨-, y, hy, e⟩ := hB c hc
            exact ⟨y, by omega, e⟩)
          exact ⟨m, a, fun _ => b⟩
        · exact ⟨0, by omega, fun z => absurd z hc⟩
      refine s_nearest (hh := x) (fun c => (hpos c).choose) (fun c _ => (hpos c).choose_spec.1) (fun c hc => ?_) (fun c hc => (hpos c).choose_spec.2 hc) ?_ ex hx
      · rw [s_nearG (rc := upR q.1 18 (upd (q.1 18) x (nI 0))) (rm := upR p.1 10 (upd (p.1 10) x (nI 0))) (show w + 1 ≤ 42 by omega) hc (fun j hj => h.hold j (by omega)) (hB c hc).1]
        exact (hpos c).choose_spec.2 hc
      · rw [nI_subN (by omega), show w + 1 - 1 = w by omega, rAt_in (show w < 42 by omega) (by decide)]
        exact exq
    have eC : cWeekR q.1 w = upR (upR q.1 18 (upd (q.1 18) x (nI 0))) 17 (upd (q.1 17) (w + 1) (itN 6 (mBgI (upR p.1 10 (upd (p.1 10) x (nI 0))) w) (-1))) := by
      unfold cWeekR
      rw [e18, hX, nI_add, rPut_in (show w + 1 < 42 by omega) (by decide)]
    rw [hcl] at hok ⊢
    rw [eC]
    have eM : mBegR p.1 x w = upR (upR p.1 10 (upd (p.1 10) x (nI 0))) 9 (upd (p.1 9) (w + 1) (itN 6 (mBgI (upR p.1 10 (upd (p.1 10) x (nI 0))) w) (-1))) := rfl
    rw [eM] at hok ⊢
    generalize itN 6 (mBgI (upR p.1 10 (upd (p.1 10) x (nI 0))) w) (-1) = Y at hok ⊢
    have hhold : ∀ j, j ≤ (t + 1) / 14 + 1 → upd (q.1 17) (w + 1) Y j = upd (p.1 9) (w + 1) Y j := fun j hj => by
      by_cases e : j = w + 1
      · subst e; rw [upd_s, upd_s]
      · rw [upd_n e, upd_n e]; exact h.hold j (by omega)
    exact ⟨⟨hok, h.f0, e1, h.f2, h.f3, h.f4, h.f5, h.v2, h.v20, h.needs, h.whole, h.always, h.onb, h.offb, h.defs, h.chg, h.sub, h.prev, h.last, h.vals, htims, h.inc, h.opn, hhold, hB, hrest, h.call⟩, hnew, hone⟩
  · rw [if_neg hw] at hok ⊢
    rw [if_neg hw]
    have hhold : ∀ j, j ≤ (t + 1) / 14 + 1 → q.1 17 j = p.1 9 j := fun j hj => h.hold j (by omega)
    exact ⟨⟨hok, h.f0, e1, h.f2, h.f3, h.f4, h.f5, h.v2, h.v20, h.needs, h.whole, h.always, h.onb, h.offb, h.defs, h.chg, h.sub, h.prev, h.last, h.vals, htims, h.inc, h.opn, hhold, h.blot, hrest, h.call⟩, hnew, hone⟩
end S87
