theorem mSt_0 (n d i : Nat) (q : gRF) : (mSt n d i q).2 0 = q.2 0 := by
  show mStF n d q.1 q.2 (nI i) 0 = q.2 0
  unfold mStF
  split
  · split
    · split
      · rfl
      · rfl
    · rfl
  · rfl
theorem mZ_0 (n d : Nat) (q : gRF) (i : Nat) : (mZ n d q i).1.2 0 = q.2 0 := by
  induction i with
  | zero =>
    show (mB0 q).2 0 = q.2 0
    unfold mB0
    split <;> rfl
  | succ i ih =>
    rw [mZ_s]
    show (mSt n d i (mZ n d q i).1).2 0 = q.2 0
    rw [mSt_0, ih]
theorem mRgF_0 (r : Nat → Nat → Int32) (f : Nat → Int32) (a b : Nat) : mRgF r f a b 0 = f 0 := by
  unfold mRgF
  split
  · rfl
  · rfl
theorem mHalf_00 (u : gRF × Bool) (X : Nat → Nat → Int32) (a b : Nat) : (if u.2 = true then ((X, mRgF u.1.1 u.1.2 a b) : gRF) else u.1).2 0 = u.1.2 0 := by
  cases u.2 with
  | true => exact mRgF_0 _ _ _ _
  | false => rfl
theorem mHalf_0 (n d : Nat) (q : gRF) : (mHalf n d q).2 0 = q.2 0 := by
  unfold mHalf
  rw [mHalf_00]
  exact mZ_0 n d q 4
theorem mPass_0 (n d : Nat) (q : gRF) (i : Nat) : (mPass n d i q).2 0 = q.2 0 := by
  induction i with
  | zero => rfl
  | succ i ih => rw [mPass_s, mHalf_0, ih]
section S94
variable {q p : gRF} {n d k t v : Nat}
theorem kCan_m (h : sI q p n d k t v) {m : Nat} (hm : m < 6) : kCan q.1 q.2 (nI m) = if mRest p.1 p.2 m = true then 3 else if n = 200 then 3 else 0 := by
  obtain ⟨hn, hn2, -⟩ := id h.ok
  unfold kCan
  rw [h.f1, s_rest h hm, h.f3]
  by_cases e : n = 200
  · have e2 : ¬ nI n < nI 200 := fun z => by
      have := (nI_ltI (a := n) (b := 200) (by omega) (by decide)).mp z
      omega
    simp only [if_pos e, if_neg e2]
  · have e2 : nI n < nI 200 := (nI_ltI (by omega) (by decide)).mpr (by omega)
    simp only [if_neg e, if_pos e2]
theorem f4_200 (h : sI q p n d k t v) : p.2 4 = nI 200 ↔ n = 200 := by
  obtain ⟨hn, hn2, -⟩ := id h.ok
  rw [hn]
  exact nI_iff (by omega) (by decide)
theorem kL_m (x : Int32) (K : Nat) : (if x < 0 then 2 else if x ≤ nI 4 then K else 2) = if mIn x (nI 0) (nI 4) = true then K else 2 := by
  unfold mIn
  rw [nI_0]
  by_cases h1 : x < 0
  · rw [if_pos h1, if_pos h1]; rfl
  · rw [if_neg h1, if_neg h1]
    by_cases h3 : nI 4 < x
    · rw [if_neg (by rw [Int32.le_iff_toInt_le]; rw [Int32.lt_iff_toInt_lt] at h3; omega), if_pos h3]; rfl
    · rw [if_pos (by rw [Int32.le_iff_toInt_le]; rw [Int32.lt_iff_toInt_lt] at h3; omega), if_neg h3]; rfl
theorem add_ans (h : sI q p n d k t v) : q.2 3 = p.2 4 + nI 1 - nI 1 := by
  obtain ⟨hn, hn2, -⟩ := id h.ok
  rw [h.f3, hn]
  simp
theorem sim_turn (h : sX q p n d k t v) (x1 x2 x3 : Int32) : simOK q (cAddR q.1 q.2 x1 (q.2 1) x2 x3, upF q.2 3 (q.2 3 + nI 1)) (mTurnQ p.1 p.2 n x1 x2 x3).1 (kTurn q.1 q.2 x1 x2 x3) (gCode (nI 1) (nI 2) (nI 3) (kTurn q.1 q.2 x1 x2 x3)) (q.2 3) (mTurnQ p.1 p.2 n x1 x2 x3).2 := by
  obtain ⟨hn, hn2, hd, hd2, hk, hk2, ht, ht2, hh, hmk⟩ := id h.1.ok
  have k1 := kPerson_m x1
  have k2 := kSwitch_m x2
  unfold kTurn mTurnQ
  rw [kL_m, k1, k2]
  cases e1 : mIn x1 (nI 0) (nI 5) with
  | false => exact sim_f h (K := 1) rfl (by decide) (c := 1) (by decide) (by decide) rfl rfl
  | true =>
    cases e2 : mIn x2 (nI 0) (nI 7) with
    | false => exact sim_f h (K := 1) rfl (by decide) (c := 1) (by decide) (by decide) rfl rfl
    | true =>
      cases e3 : mIn x3 (nI 0) (nI 4) with
      | false => exact sim_f h (K := 2) rfl (by decide) (c := 2) (by decide) (by decide) rfl rfl
      | true =>
        obtain ⟨m, hm, em, em2⟩ := mIn_ex e1 (by decide)
        obtain ⟨s, hs, es, -⟩ := mIn_ex e2 (by decide)
        obtain ⟨y, hy, ey, -⟩ := mIn_ex e3 (by decide)
        simp only [if_true, kT_00]
        rw [em2, em, kCan_m h.1 (by omega), es, s_level h.1 (by omega)]
        cases e4 : mRest p.1 p.2 m with
        | true => exact sim_f h (K := 3) rfl (by decide) (c := 3) (by decide) (by decide) rfl rfl
        | false =>
          simp only [Bool.false_eq_true, if_false, f4_200 h.1]
          by_cases e5 : mVal p.1 n (nI 0) (nI s) (-1) = x3
          · simp only [if_pos e5]
            refine sim_f h (K := 3) ?_ (by decide) (c := 3) (by decide) (by decide) rfl ?_
            · by_cases e6 : n = 200 <;> simp [e6, kT]
            · by_cases e6 : n = 200 <;> simp [e6, kT, gCode]
          · simp only [if_neg e5]
            by_cases e6 : n = 200
            · simp only [if_pos e6]
              exact sim_f h (K := 3) rfl (by decide) (c := 3) (by decide) (by decide) rfl rfl
            · simp only [if_neg e6]
              refine sim_o rfl rfl rfl (add_ans h.1) ⟨n + 1, d, k, t, v, ?_⟩
              have h9 := s_add h (by omega) (m := m) (s := s) (y := y) (by omega) (by omega) (fun _ => by omega) (fun z => absurd (show s < 8 by omega) z)
              rw [show soS s = nI 0 from if_pos (by omega), show taS s = nI s from if_pos (by omega)] at h9
              rw [ey]
              exact h9
theorem sim_roll (h : sX q p n d k t v) (x1 x2 x3 : Int32) : simOK q (cAddR q.1 q.2 x1 (q.2 1) (cSubj x2) x3, upF q.2 3 (q.2 3 + nI 1)) (mRollQ p.1 p.2 n k x1 x2 x3).1 (kRoll q.1 q.2 x1 x2 x3) (gCode (nI 1) (nI 0) (nI 2) (kRoll q.1 q.2 x1 x2 x3)) (q.2 3) (mRollQ p.1 p.2 n k x1 x2 x3).2 := by
  obtain ⟨hn, hn2, hd, hd2, hk, hk2, ht, ht2, hh, hmk⟩ := id h.1.ok
  have k1 := kPerson_m x1
  have k2 := kRing_m x2
  have k3 := kv_m h.1 x3
  unfold kRoll mRollQ
  rw [k1, k2, k3]
  cases e1 : mIn x1 (nI 0) (nI 5) with
  | false => exact sim_f h (K := 1) rfl (by decide) (c := 1) (by decide) (by decide) rfl rfl
  | true =>
    cases e2 : mIn x2 (nI 0) (nI 3) with
    | false => exact sim_f h (K := 1) rfl (by decide) (c := 1) (by decide) (by decide) rfl rfl
    | true =>
      cases e3 : mIn x3 (nI 0) (p.2 2 - nI 1) with
      | false => exact sim_f h (K := 1) rfl (by decide) (c := 1) (by decide) (by decide) rfl rfl
      | true =>
        obtain ⟨m, hm, em, em2⟩ := mIn_ex e1 (by decide)
        obtain ⟨g, hg, eg, eg2⟩ := mIn_ex e2 (by decide)
        obtain ⟨y, hy, ey, -⟩ := mIn_ex2 h.1.v2 e3 (by have := h.1.v20; omega)
        simp only [if_true, kT_00]
        rw [em2, em, kCan_m h.1 (by omega), eg2, eg, s_runs h.1 (by omega), s_held h.1 (by omega)]
        cases e4 : mRest p.1 p.2 m with
        | true => exact sim_f h (K := 3) rfl (by decide) (c := 2) (by decide) (by decide) rfl rfl
        | false =>
          simp only [Bool.false_eq_true, if_false, f4_200 h.1]
          by_cases e5 : mVal p.1 n (nI 1) (nI g) (-1) = x3
          · simp only [if_pos e5]
            refine sim_f h (K := 3) ?_ (by decide) (c := 2) (by decide) (by decide) rfl ?_
            · by_cases e6 : n = 200 <;> simp [e6, kT]
            · by_cases e6 : n = 200 <;> simp [e6, kT, gCode]
          · simp only [if_neg e5]
            by_cases e6 : n = 200
            · simp only [if_pos e6]
              exact sim_f h (K := 3) rfl (by decide) (c := 2) (by decide) (by decide) rfl rfl
            · simp only [if_neg e6, kT_00]
              cases e7 : mHeld p.1 p.2 n k g x3 with
              | true => exact sim_f h (K := 3) rfl (by decide) (c := 2) (by decide) (by decide) rfl rfl
              | false =>
                simp only [Bool.false_eq_true, if_false]
                refine sim_o rfl rfl rfl (add_ans h.1) ⟨n + 1, d, k, t, v, ?_⟩
                have h9 := s_add h (by omega) (m := m) (s := 8 + g) (y := y) (by omega) (by omega) (fun z => absurd z (by omega)) (fun _ => hy)
                rw [show soS (8 + g) = nI 1 from if_neg (by omega), show taS (8 + g) = nI g from (if_neg (by omega)).trans (by rw [show 8 + g - 8 = g by omega])] at h9
                rw [ey, show cSubj (nI g) = nI (8 + g) from nI_add 8 g]
                exact h9
theorem sim_revert (h : sX q p n d k t v) (x1 x2 : Int32) : simOK q (cAddR q.1 q.2 x1 (q.2 1) (rAt 200 (q.1 7) x2) (cWithout q.1 x2), upF q.2 3 (q.2 3 + nI 1)) (mRevQ p.1 p.2 n x1 x2).1 (kRevert q.1 q.2 x1 x2) (gCode (nI 1) (nI 0) (nI 2) (kRevert q.1 q.2 x1 x2)) (q.2 3) (mRevQ p.1 p.2 n x1 x2).2 := by
  obtain ⟨hn, hn2, hd, hd2, hk, hk2, ht, ht2, hh, hmk⟩ := id h.1.ok
  have k1 := kPerson_m x1
  have k2 := kc_m h.1 x2
  unfold kRevert mRevQ
  rw [k1, k2]
  cases e1 : mIn x1 (nI 0) (nI 5) with
  | false => exact sim_f h (K := 1) rfl (by decide) (c := 1) (by decide) (by decide) rfl rfl
  | true =>
    cases e2 : mIn x2 (nI 0) (p.2 4 - nI 1) with
    | false => exact sim_f h (K := 1) rfl (by decide) (c := 1) (by decide) (by decide) rfl rfl
    | true =>
      obtain ⟨m, hm, em, em2⟩ := mIn_ex e1 (by decide)
      obtain ⟨c, hc, ec, ec2⟩ := mIn_chg h.1 e2
      obtain ⟨s, hs, es, es5, es6⟩ := s_subj h.1 hc
      obtain ⟨y, hy1, hy2, ey⟩ := s_valB h.1 s (nI c)
      simp only [if_true, kT_00]
      rw [em2, em, kCan_m h.1 (by omega), ec2, ec, es5, es6, rAt_in (show c < 200 by omega) (by decide), es, rAt_in hs (by decide), ← s_lat h.1 hs, ey, s_val_wo h.1 hc hs es, ey]
      cases e4 : mRest p.1 p.2 m with
      | true => exact sim_f h (K := 3) rfl (by decide) (c := 2) (by decide) (by decide) rfl rfl
      | false =>
        simp only [Bool.false_eq_true, if_false, f4_200 h.1]
        by_cases e5 : q.1 10 s = nI c
        · simp only [if_pos e5]
          by_cases e6 : n = 200
          · simp only [if_pos e6]
            exact sim_f h (K := 3) rfl (by decide) (c := 2) (by decide) (by decide) rfl rfl
          · simp only [if_neg e6]
            refine sim_o rfl rfl rfl (add_ans h.1) ⟨n + 1, d, k, t, v, ?_⟩
            exact s_add h (by omega) (by omega) hs hy1 hy2
        · simp only [if_neg e5]
          refine sim_f h (K := 3) ?_ (by decide) (c := 2) (by decide) (by decide) rfl ?_
          · by_cases e6 : n = 200 <;> simp [e6, kT]
          · by_cases e6 : n = 200 <;> simp [e6, kT, gCode]
theorem sim_takeOver (h : sX q p n d k t v) (x : Int32) : simOK q (upR q.1 17 (rPut 42 (q.1 17) (q.2 1 / nI 14 + nI 1) x), q.2) (mTakeQ p.1 p.2 t x).1 (kTake q.1 q.2 x) (gCode (nI 1) (nI 0) (nI 2) (kTake q.1 q.2 x)) (rAt 42 (q.1 17) (q.2 1 / nI 14 + nI 1)) (mTakeQ p.1 p.2 t x).2 := by
  obtain ⟨hn, hn2, hd, hd2, hk, hk2, ht, ht2, hh, hmk⟩ := id h.1.ok
  have k1 := kPerson_m x
  have e9 : q.2 1 / nI 14 = nI (t / 14) := by rw [h.1.f1, pk_div (by omega) (by decide) (by decide)]
  unfold kTake mTakeQ
  rw [k1, e9, nI_add, rAt_in (show t / 14 + 1 < 42 by omega) (by decide), rAt_in (show t / 14 < 42 by omega) (by decide), h.1.hold (t / 14) (by omega), h.1.hold (t / 14 + 1) (by omega), rPut_in (show t / 14 + 1 < 42 by omega) (by decide)]
  cases e1 : mIn x (nI 0) (nI 5) with
  | false => exact sim_f h (K := 1) rfl (by decide) (c := 1) (by decide) (by decide) rfl rfl
  | true =>
    obtain ⟨m, hm, em, em2⟩ := mIn_ex e1 (by decide)
    simp only [if_true, kT_00]
    by_cases e2 : p.1 9 (t / 14) = x
    · simp only [if_pos e2, if_pos e2.symm]
      refine sim_f h (K := 3) ?_ (by decide) (c := 2) (by decide) (by decide) rfl ?_
      · split <;> rfl
      · split <;> rfl
    · simp only [if_neg e2, if_neg (fun z => e2 (Eq.symm z) : ¬ x = p.1 9 (t / 14))]
      by_cases e3 : p.1 9 (t / 14 + 1) = x
      · simp only [if_pos e3, if_pos e3.symm]
        exact sim_f h (K := 3) rfl (by decide) (c := 2) (by decide) (by decide) rfl rfl
      · simp only [if_neg e3, if_neg (fun z => e3 (Eq.symm z) : ¬ x = p.1 9 (t / 14 + 1))]
        refine sim_o rfl rfl rfl rfl ⟨n, d, k, t, v, ?_⟩
        obtain ⟨h, hnew, hone⟩ := h
        have hh2 : ∀ w, w ≤ t / 14 + 1 → ∃ a, a < 6 ∧ upd (p.1 9) (t / 14 + 1) x w = nI a := fun w hw => by
          by_cases e : w = t / 14 + 1
          · rw [e, upd_s]; exact ⟨m, by omega, em⟩
          · rw [upd_n e]; exact hh w hw
        have hok : mOK (upR p.1 9 (upd (p.1 9) (t / 14 + 1) x)) (upF p.2 0 (nI 0)) n d k t := ⟨hn, hn2, hd, hd2, hk, hk2, ht, ht2, hh2, hmk⟩
        have hhold : ∀ w, w ≤ t / 14 + 1 → upd (q.1 17) (t / 14 + 1) x w = upd (p.1 9) (t / 14 + 1) x w := fun w hw => by
          by_cases e : w = t / 14 + 1
          · rw [e, upd_s, upd_s]
          · rw [upd_n e, upd_n e]; exact h.hold w hw
        exact ⟨⟨hok, h.f0, h.f1, h.f2, h.f3, h.f4, h.f5, h.v2, h.v20, h.needs, h.whole, h.always, h.onb, h.offb, h.defs, h.chg, h.sub, h.prev, h.last, h.vals, h.tims, h.inc, h.opn, hhold, h.blot, h.rest, h.call⟩, hnew, hone⟩
theorem sim_pass (h : sX q p n d k t v) (x : Int32) : simOK q (cPass (cN x) q) (mPassQ p.1 p.2 n d x) (kPass q.2 x) (gCode (nI 0) (nI 1) (nI 2) (kPass q.2 x)) ((cPass (cN x) q).2 4 - q.2 4) (mPassA p.1 p.2 n d x) := by
  obtain ⟨hn, hn2, hd, hd2, hk, hk2, ht, ht2, hh, hmk⟩ := id h.1.ok
  have hin : mIn x (nI 1) (nI 28) = if x < nI 1 then false else if x ≤ nI 28 then true else false := by
    unfold mIn
    by_cases e : x < nI 1
    · rw [if_pos e, if_pos e]
    · rw [if_neg e, if_neg e]
      by_cases e2 : nI 28 < x
      · rw [if_pos e2, if_neg (by rw [Int32.le_iff_toInt_le]; rw [Int32.lt_iff_toInt_lt] at e2; omega)]
      · rw [if_neg e2, if_pos (by rw [Int32.le_iff_toInt_le]; rw [Int32.lt_iff_toInt_lt] at e2; omega)]
  unfold kPass mPassQ mPassA
  rw [hin]
  by_cases e1 : x < nI 1
  · simp only [if_pos e1]
    exact sim_f h (K := 2) rfl (by decide) (c := 1) (by decide) (by decide) rfl rfl
  · simp only [if_neg e1]
    by_cases e2 : x ≤ nI 28
    · simp only [if_pos e2, if_true]
      have hx : ∃ j, x = nI j ∧ j ≤ 28 := by
        have h0 : ¬ x < 0 := fun z => e1 (by rw [Int32.lt_iff_toInt_lt] at z ⊢; rw [Int32.toInt_zero] at z; rw [nI_toInt (by decide)]; omega)
        obtain ⟨j, hj, e⟩ := nI_of h0
        refine ⟨j, e, ?_⟩
        rw [e] at e2
        exact (nI_leI hj (by decide)).mp e2
      obtain ⟨j, ej, hj⟩ := hx
      have ecN : cN x = j := by rw [ej]; exact nI_clamp (by omega)
      rw [h.1.f1, ht, ecN]
      have e3 : nI t + x = nI (t + j) := by rw [ej, nI_add]
      rw [e3]
      by_cases e4 : t + j ≤ 560
      · have e5 : nI (t + j) ≤ nI 560 := nI_le e4 (by decide)
        simp only [if_pos e5]
        obtain ⟨k2, h2⟩ := s_pass (p := (p.1, upF p.2 0 (nI 0))) (h.thr (nI 0)) j e4
        obtain ⟨-, -, -, -, g6, -⟩ := id h2.1.ok
        have a1 : (cPass j q).2 4 - q.2 4 = (mPass n d j (p.1, upF p.2 0 (nI 0))).2 6 - p.2 6 := by rw [h2.1.f4, g6, h.1.f4, hk]
        exact sim_o rfl ((mPass_0 n d _ j).trans (upF_s p.2 0 (nI 0))) rfl a1 ⟨n, d, k2, t + j, v, h2⟩
      · have e5 : ¬ nI (t + j) ≤ nI 560 := fun z => e4 ((nI_leI (by omega) (by decide)).mp z)
        simp only [if_neg e5, if_true]
        exact sim_f h (K := 3) rfl (by decide) (c := 2) (by decide) (by decide) rfl rfl
    · simp only [if_neg e2]
      exact sim_f h (K := 2) rfl (by decide) (c := 1) (by decide) (by decide) rfl rfl
end S94
