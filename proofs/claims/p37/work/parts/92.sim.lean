def simOK (q q2 p2 : gRF) (K : Nat) (code E A : Int32) : Prop := p2.2 0 = code ∧ (code = 0 ↔ K = 0) ∧ (K = 0 → E = A) ∧ ∃ n d k t v, sX (if K = 0 then q2 else q) p2 n d k t v
theorem kT_00 (b : Nat) : kT 0 b = b := rfl
theorem kT_1 (b : Nat) : kT 1 b = 1 := rfl
theorem kT_2 (b : Nat) : kT 2 b = 2 := rfl
theorem kT_3 (b : Nat) : kT 3 b = 3 := rfl
section S92
variable {q q2 p p2 : gRF} {n d k t v : Nat}
/-- a refused call -/
theorem sim_f (h : sX q p n d k t v) {K c : Nat} {code E A : Int32} {P : gRF} {KK : Nat} (hKK : KK = K) (hK : ¬ K = 0) (hc : 0 < c) (hc2 : c < 4) (hP : P = (p.1, upF p.2 0 (nI c))) (hcode : code = nI c) : simOK q q2 P KK code E A := by
  subst hKK
  subst hP
  subst hcode
  refine ⟨upF_s p.2 0 (nI c), ⟨fun z => absurd z (nI_ne0 hc (by omega)), fun z => absurd z hK⟩, fun z => absurd z hK, n, d, k, t, v, ?_⟩
  rw [if_neg hK]
  exact h.thr _
/-- a call that answers -/
theorem sim_o {KK : Nat} {code E A : Int32} (hKK : KK = 0) (h0 : p2.2 0 = nI 0) (hcode : code = nI 0) (hEA : E = A) (h : ∃ n d k t v, sX q2 p2 n d k t v) : simOK q q2 p2 KK code E A := by
  subst hKK
  subst hcode
  exact ⟨h0, ⟨fun _ => rfl, fun _ => rfl⟩, fun _ => hEA, by rw [if_pos rfl]; exact h⟩
/-- a reader -/
theorem sim_r (h : sX q p n d k t v) {B : Bool} {K : Nat} {E A0 A : Int32} (hK : K = if B = true then 0 else 1) (hE : B = true → E = A0) (hA : A = if B = true then A0 else nI 0) : simOK q q (p.1, upF p.2 0 (if B = true then nI 0 else nI 1)) K (gCode (nI 1) (nI 0) (nI 0) K) E A := by
  subst hA
  cases B with
  | true => exact sim_o hK (upF_s p.2 0 (nI 0)) (by rw [hK]; rfl) (hE rfl) ⟨n, d, k, t, v, h.thr _⟩
  | false => exact sim_f h hK (by decide) (c := 1) (by decide) (by decide) rfl (by rw [hK]; rfl)
theorem sim_rb (h : sX q p n d k t v) {B : Bool} {K : Nat} {E A0 A : Bool} (hK : K = if B = true then 0 else 1) (hE : B = true → E = A0) (hA : A = if B = true then A0 else false) : simOK q q (p.1, upF p.2 0 (if B = true then nI 0 else nI 1)) K (gCode (nI 1) (nI 0) (nI 0) K) (b2i E) (b2i A) := by
  subst hA
  cases B with
  | true => exact sim_o hK (upF_s p.2 0 (nI 0)) (by rw [hK]; rfl) (by rw [hE rfl]; rfl) ⟨n, d, k, t, v, h.thr _⟩
  | false => exact sim_f h hK (by decide) (c := 1) (by decide) (by decide) rfl (by rw [hK]; rfl)
theorem kc_m (h : sI q p n d k t v) (x : Int32) : kBelow (q.2 3) x = if mIn x (nI 0) (p.2 4 - nI 1) = true then 0 else 1 := by
  obtain ⟨hn, hn2, -⟩ := id h.ok
  rw [h.f3, hn]
  exact kBelow_m n x (by omega)
theorem ki_m (h : sI q p n d k t v) (x : Int32) : kBelow (q.2 4) x = if mIn x (nI 0) (p.2 6 - nI 1) = true then 0 else 1 := by
  obtain ⟨hn, hn2, hd, hd2, hk, hk2, -⟩ := id h.ok
  rw [h.f4, hk]
  exact kBelow_m k x (by omega)
theorem kv_m (h : sI q p n d k t v) (x : Int32) : kBelow (q.2 0) x = if mIn x (nI 0) (p.2 2 - nI 1) = true then 0 else 1 := by
  rw [h.f0, h.v2]
  exact kBelow_m v x (by have := h.v20; omega)
theorem sim_holder (h : sX q p n d k t v) (x : Int32) : simOK q q (p.1, upF p.2 0 (if mIn x (nI 0) (p.2 1 / nI 14 + nI 1) = true then nI 0 else nI 1)) (kHolder q.2 x) (gCode (nI 1) (nI 0) (nI 0) (kHolder q.2 x)) (rAt 42 (q.1 17) x) (if mIn x (nI 0) (p.2 1 / nI 14 + nI 1) = true then p.1 9 (cN x) else nI 0) := by
  obtain ⟨-, -, -, -, -, -, ht, -⟩ := id h.1.ok
  exact sim_r h (by rw [kHolder_m, h.1.f1, ht]) (fun hB => s_holder h.1 hB) rfl
theorem sim_near (h : sX q p n d k t v) (x : Int32) : simOK q q (p.1, upF p.2 0 (if mIn x (nI 0) (nI 5) = true then nI 0 else nI 1)) (kPerson x) (gCode (nI 1) (nI 0) (nI 0) (kPerson x)) (cNear q.1 x (t / 14 + 2)) (if mIn x (nI 0) (nI 5) = true then mNear p.1 (cN x) (t / 14 + 2) else nI 0) :=
  sim_r h (kPerson_m x) (fun hB => by
    obtain ⟨j, hj, e, e2⟩ := mIn_ex hB (by decide)
    rw [e2, e]
    exact s_near h.1 (by omega)) rfl
theorem sim_blots (h : sX q p n d k t v) (x : Int32) : simOK q q (p.1, upF p.2 0 (if mIn x (nI 0) (nI 5) = true then nI 0 else nI 1)) (kPerson x) (gCode (nI 1) (nI 0) (nI 0) (kPerson x)) (rAt 6 (q.1 18) x) (if mIn x (nI 0) (nI 5) = true then p.1 10 (cN x) else nI 0) := sim_r h (kPerson_m x) (fun hB => s_blots h.1 hB) rfl
theorem sim_calls (h : sX q p n d k t v) (x : Int32) (y : Bool) : simOK q q (p.1, upF p.2 0 (if mIn x (nI 0) (nI 5) = true then nI 0 else nI 1)) (kPerson x) (gCode (nI 1) (nI 0) (nI 0) (kPerson x)) (if y = true then rAt 6 (q.1 21) x else rAt 6 (q.1 20) x) (if mIn x (nI 0) (nI 5) = true then (if y = true then p.1 13 (cN x) else p.1 12 (cN x)) else nI 0) := sim_r h (kPerson_m x) (fun hB => s_calls h.1 hB y) rfl
theorem sim_rests (h : sX q p n d k t v) (x : Int32) : simOK q q (p.1, upF p.2 0 (if mIn x (nI 0) (nI 5) = true then nI 0 else nI 1)) (kPerson x) (gCode (nI 1) (nI 0) (nI 0) (kPerson x)) (b2i (cRest q.1 x (q.2 1))) (b2i (if mIn x (nI 0) (nI 5) = true then mRest p.1 p.2 (cN x) else false)) :=
  sim_rb h (kPerson_m x) (fun hB => by
    obtain ⟨j, hj, e, e2⟩ := mIn_ex hB (by decide)
    rw [e2, e, h.1.f1]
    exact s_rest h.1 (by omega)) rfl
theorem sim_version (h : sX q p n d k t v) (x : Int32) : simOK q q (p.1, upF p.2 0 (if mIn x (nI 0) (nI 3) = true then nI 0 else nI 1)) (kRing x) (gCode (nI 1) (nI 0) (nI 0) (kRing x)) (cRuns q.1 x) (if mIn x (nI 0) (nI 3) = true then mVal p.1 n (nI 1) x (-1) else nI 0) :=
  sim_r h (kRing_m x) (fun hB => by
    obtain ⟨j, hj, e, e2⟩ := mIn_ex hB (by decide)
    rw [e]
    exact s_runs h.1 (by omega)) rfl
theorem sim_level (h : sX q p n d k t v) (x : Int32) : simOK q q (p.1, upF p.2 0 (if mIn x (nI 0) (nI 7) = true then nI 0 else nI 1)) (kSwitch x) (gCode (nI 1) (nI 0) (nI 0) (kSwitch x)) (cValueNow q.1 x) (if mIn x (nI 0) (nI 7) = true then mVal p.1 n (nI 0) x (-1) else nI 0) :=
  sim_r h (kSwitch_m x) (fun hB => by
    obtain ⟨j, hj, e, e2⟩ := mIn_ex hB (by decide)
    rw [e]
    exact s_level h.1 (by omega)) rfl
theorem kT_m2 (B C : Bool) : kT (if B = true then 0 else 1) (if C = true then 0 else 1) = if (if B = true then C else false) = true then 0 else 1 := by cases B <;> cases C <;> rfl
theorem sim_isOn (h : sX q p n d k t v) (x y : Int32) : simOK q q (p.1, upF p.2 0 (if (if mIn x (nI 0) (nI 7) = true then mIn y (nI 0) (nI 3) else false) = true then nI 0 else nI 1)) (kT (kSwitch x) (kRing y)) (gCode (nI 1) (nI 0) (nI 0) (kT (kSwitch x) (kRing y))) (b2i (cHasBit (cOn q.1 (cSet q.1 y)) x)) (b2i (if (if mIn x (nI 0) (nI 7) = true then mIn y (nI 0) (nI 3) else false) = true then decide ((mOns p.1 n y (-1) >>> (x &&& 31)) &&& nI 1 = nI 1) else false)) :=
  sim_rb h (by rw [kSwitch_m, kRing_m]; exact kT_m2 _ _) (fun _ => by rw [s_onx h.1]; rfl) rfl
theorem sim_isFaulty (h : sX q p n d k t v) (x : Int32) : simOK q q (p.1, upF p.2 0 (if mIn x (nI 0) (nI 3) = true then nI 0 else nI 1)) (kRing x) (gCode (nI 1) (nI 0) (nI 0) (kRing x)) (b2i (cFault q.1 x)) (b2i (if mIn x (nI 0) (nI 3) = true then mBad p.1 n d x (-1) else false)) :=
  sim_rb h (kRing_m x) (fun hB => by
    obtain ⟨j, hj, e, e2⟩ := mIn_ex hB (by decide)
    rw [e]
    exact s_bad h.1 (by omega)) rfl
theorem sim_rollable (h : sX q p n d k t v) (x : Int32) : simOK q q (p.1, upF p.2 0 (if mIn x (nI 0) (nI 3) = true then nI 0 else nI 1)) (kRing x) (gCode (nI 1) (nI 0) (nI 0) (kRing x)) (cRollable q.1 q.2 x) (if mIn x (nI 0) (nI 3) = true then mRoll p.1 p.2 n k x else nI 0) :=
  sim_r h (kRing_m x) (fun hB => by
    obtain ⟨j, hj, e, e2⟩ := mIn_ex hB (by decide)
    rw [e]
    exact s_rollable h.1 (by omega)) rfl
theorem mIn_chg (h : sI q p n d k t v) {x : Int32} (hB : mIn x (nI 0) (p.2 4 - nI 1) = true) : ∃ j, j < n ∧ x = nI j ∧ cN x = j := by
  obtain ⟨hn, hn2, -⟩ := id h.ok
  exact mIn_ex2 hn hB (by omega)
theorem sim_change (h : sX q p n d k t v) (x : Int32) : simOK q q (p.1, upF p.2 0 (if mIn x (nI 0) (p.2 4 - nI 1) = true then nI 0 else nI 1)) (kBelow (q.2 3) x) (gCode (nI 1) (nI 0) (nI 0) (kBelow (q.2 3) x)) (cChange q.1 x) (if mIn x (nI 0) (p.2 4 - nI 1) = true then nI 10000 * p.1 4 (cN x) + nI 1000 * p.1 5 (cN x) + nI 100 * p.1 6 (cN x) + p.1 7 (cN x) else nI 0) :=
  sim_r h (kc_m h.1 x) (fun hB => by
    obtain ⟨j, hj, e, e2⟩ := mIn_chg h.1 hB
    rw [e2, e]
    exact s_change h.1 hj) rfl
theorem sim_madeAt (h : sX q p n d k t v) (x : Int32) : simOK q q (p.1, upF p.2 0 (if mIn x (nI 0) (p.2 4 - nI 1) = true then nI 0 else nI 1)) (kBelow (q.2 3) x) (gCode (nI 1) (nI 0) (nI 0) (kBelow (q.2 3) x)) (rAt 200 (q.1 6) x) (if mIn x (nI 0) (p.2 4 - nI 1) = true then p.1 8 (cN x) else nI 0) := sim_r h (kc_m h.1 x) (fun hB => s_madeAt h.1 hB) rfl
theorem sim_heals (h : sX q p n d k t v) (x y : Int32) : simOK q q (p.1, upF p.2 0 (if (if mIn x (nI 0) (p.2 4 - nI 1) = true then mIn y (nI 0) (nI 3) else false) = true then nI 0 else nI 1)) (kT (kBelow (q.2 3) x) (kRing y)) (gCode (nI 1) (nI 0) (nI 0) (kT (kBelow (q.2 3) x) (kRing y))) (b2i (cHeals q.1 x y)) (b2i (if (if mIn x (nI 0) (p.2 4 - nI 1) = true then mIn y (nI 0) (nI 3) else false) = true then (if mBad p.1 n d y (-1) = true then (if mBad p.1 n d y x = true then false else true) else false) else false)) :=
  sim_rb h (by rw [kc_m h.1, kRing_m]; exact kT_m2 _ _) (fun hB => by
    have hB1 : mIn x (nI 0) (p.2 4 - nI 1) = true := by
      cases e : mIn x (nI 0) (p.2 4 - nI 1) with
      | true => rfl
      | false => rw [e] at hB; cases hB
    rw [hB1, if_pos rfl] at hB
    obtain ⟨c, hc, e, -⟩ := mIn_chg h.1 hB1
    obtain ⟨g, hg, e2, -⟩ := mIn_ex hB (by decide)
    rw [e, e2]
    exact s_heals h.1 hc (by omega)) rfl
theorem sim_trace (h : sX q p n d k t v) (x : Int32) : simOK q q (p.1, upF p.2 0 (if mIn x (nI 0) (nI 3) = true then nI 0 else nI 1)) (kRing x) (gCode (nI 1) (nI 0) (nI 0) (kRing x)) (cLatest q.1 x) (if mIn x (nI 0) (nI 3) = true then mTrace p.1 n d x else nI 0) :=
  sim_r h (kRing_m x) (fun hB => by
    obtain ⟨j, hj, e, e2⟩ := mIn_ex hB (by decide)
    rw [e]
    exact s_trace h.1 (by omega)) rfl
theorem sim_try (h : sX q p n d k t v) (x : Int32) : simOK q q (p.1, upF p.2 0 (if mIn x (nI 0) (nI 3) = true then nI 0 else nI 1)) (kRing x) (gCode (nI 1) (nI 0) (nI 0) (kRing x)) (cTry q.1 n x) (if mIn x (nI 0) (nI 3) = true then mTrace p.1 n d x else nI 0) :=
  sim_r h (kRing_m x) (fun hB => by
    obtain ⟨j, hj, e, e2⟩ := mIn_ex hB (by decide)
    rw [e]
    exact s_try h.1 (by omega)) rfl
theorem sim_openIn (h : sX q p n d k t v) (x : Int32) : simOK q q (p.1, upF p.2 0 (if mIn x (nI 0) (nI 3) = true then nI 0 else nI 1)) (kRing x) (gCode (nI 1) (nI 0) (nI 0) (kRing x)) (rAt 4 (q.1 16) x) (if mIn x (nI 0) (nI 3) = true then mOpen p.1 k x else nI 0) := sim_r h (kRing_m x) (fun hB => s_openIn h.1 hB) rfl
theorem sim_openedAt (h : sX q p n d k t v) (x : Int32) : simOK q q (p.1, upF p.2 0 (if mIn x (nI 0) (p.2 6 - nI 1) = true then nI 0 else nI 1)) (kBelow (q.2 4) x) (gCode (nI 1) (nI 0) (nI 0) (kBelow (q.2 4) x)) (nI 10 * rAt 200 (q.1 12) x + rAt 200 (q.1 11) x) (if mIn x (nI 0) (p.2 6 - nI 1) = true then nI 10 * p.1 15 (cN x) + p.1 14 (cN x) else nI 0) := sim_r h (ki_m h.1 x) (fun hB => (s_inc h.1 hB).1) rfl
theorem sim_closedAt (h : sX q p n d k t v) (x : Int32) : simOK q q (p.1, upF p.2 0 (if mIn x (nI 0) (p.2 6 - nI 1) = true then nI 0 else nI 1)) (kBelow (q.2 4) x) (gCode (nI 1) (nI 0) (nI 0) (kBelow (q.2 4) x)) (rAt 200 (q.1 13) x) (if mIn x (nI 0) (p.2 6 - nI 1) = true then p.1 16 (cN x) else nI 0) := sim_r h (ki_m h.1 x) (fun hB => (s_inc h.1 hB).2.1) rfl
theorem sim_tracedTo (h : sX q p n d k t v) (x : Int32) : simOK q q (p.1, upF p.2 0 (if mIn x (nI 0) (p.2 6 - nI 1) = true then nI 0 else nI 1)) (kBelow (q.2 4) x) (gCode (nI 1) (nI 0) (nI 0) (kBelow (q.2 4) x)) (rAt 200 (q.1 14) x) (if mIn x (nI 0) (p.2 6 - nI 1) = true then p.1 17 (cN x) else nI 0) := sim_r h (ki_m h.1 x) (fun hB => (s_inc h.1 hB).2.2.1) rfl
theorem sim_firstCalled (h : sX q p n d k t v) (x : Int32) : simOK q q (p.1, upF p.2 0 (if mIn x (nI 0) (p.2 6 - nI 1) = true then nI 0 else nI 1)) (kBelow (q.2 4) x) (gCode (nI 1) (nI 0) (nI 0) (kBelow (q.2 4) x)) (rAt 200 (q.1 15) x) (if mIn x (nI 0) (p.2 6 - nI 1) = true then p.1 18 (cN x) else nI 0) := sim_r h (ki_m h.1 x) (fun hB => (s_inc h.1 hB).2.2.2) rfl
end S92
