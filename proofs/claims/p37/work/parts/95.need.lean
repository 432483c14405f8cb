theorem itW_at {F : Nat → Int32} {g0 : Nat → Int32} {c : Nat} (m : Nat) (hm : m ≤ 8) (hc : c < m) : itN m (fun j g => rPut 8 g (nI j) (F j)) g0 c = F c := by
  induction m with
  | zero => omega
  | succ m ih =>
    rw [itN_s, rPut_in (show m < 8 by omega) (by decide)]
    by_cases e : c = m
    · rw [e, upd_s]
    · rw [upd_n e]; exact ih (by omega) (by omega)
section S95
variable {q p : gRF} {n d k t v : Nat}
theorem s_ned (h : sX q p n d k t v) {c1 c2 : Nat} (h1 : c1 < 8) (h2 : c2 < 8) (x3 : Bool) : sX (cPutW (cPutN q.1 (nI c1) (nI c2) x3) 8, q.2) (mNdR p.1 (nI c1) (nI c2) x3, upF p.2 0 (nI 0)) n d k t v ∧ cBitCount (rAt 8 (cPutN q.1 (nI c1) (nI c2) x3 0) (nI c1)) = mBits (mNdR p.1 (nI c1) (nI c2) x3 0 c1) := by
  obtain ⟨h, hnew, hone⟩ := h
  obtain ⟨hn, hn2, hd, hd2, hk, hk2, ht, ht2, hh, hmk⟩ := id h.ok
  obtain ⟨eq0, b, hb, eb⟩ := h.needs c1 h1
  obtain ⟨b2, hb2, eb2⟩ := wb_ex hb h2 x3
  have eV : cWithBit (p.1 0 c1) (nI c2) x3 = nI b2 := by rw [eb]; exact eb2
  have eC : cPutN q.1 (nI c1) (nI c2) x3 = upR q.1 0 (upd (q.1 0) c1 (nI b2)) := by
    unfold cPutN
    rw [rAt_in h1 (by decide), rPut_in h1 (by decide), eq0, eV]
  have eM : mNdR p.1 (nI c1) (nI c2) x3 = upR p.1 0 (upd (p.1 0) c1 (nI b2)) := by
    unfold mNdR mNdV
    rw [show cN (nI c1) = c1 from nI_clamp (by omega), ← eV]
    unfold cWithBit
    rfl
  rw [eC, eM]
  have hneeds : ∀ c, c < 8 → upd (q.1 0) c1 (nI b2) c = upd (p.1 0) c1 (nI b2) c ∧ ∃ b, b < 256 ∧ upd (p.1 0) c1 (nI b2) c = nI b := fun c hc => by
    by_cases e : c = c1
    · rw [e, upd_s, upd_s]; exact ⟨rfl, b2, hb2, rfl⟩
    · rw [upd_n e, upd_n e]; exact h.needs c hc
  have hwhole : ∀ c, c < 8 → itN 8 (fun j g => rPut 8 g (nI j) (cGather (upR q.1 0 (upd (q.1 0) c1 (nI b2))) (nI j))) (q.1 1) c = cGather (upR q.1 0 (upd (q.1 0) c1 (nI b2))) (nI c) := fun c hc => itW_at (F := fun j => cGather (upR q.1 0 (upd (q.1 0) c1 (nI b2))) (nI j)) 8 (Nat.le_refl _) hc
  constructor
  · refine ⟨⟨h.ok, h.f0, h.f1, h.f2, h.f3, h.f4, h.f5, h.v2, h.v20, hneeds, ?_, h.always, h.onb, h.offb, h.defs, h.chg, h.sub, h.prev, h.last, h.vals, h.tims, h.inc, h.opn, h.hold, h.blot, h.rest, h.call⟩, hnew, hone⟩
    intro c hc
    exact (hwhole c hc).trans (cGather_W (upR q.1 0 (upd (q.1 0) c1 (nI b2))) 8 (nI c)).symm
  · show cBitCount (rAt 8 (upd (q.1 0) c1 (nI b2)) (nI c1)) = mBits (upd (p.1 0) c1 (nI b2) c1)
    rw [rAt_in h1 (by decide), upd_s, upd_s]
    exact bits_eq hb2
theorem s_reaches (h : sX q p n d k t v) {c1 c2 : Nat} (h1 : c1 < 8) (h2 : c2 < 8) (hne : ¬ c1 = c2) : cHasBit (rAt 8 (q.1 1) (nI c2)) (nI c1) = decide ((mReach p.1 c2 >>> (nI c1 &&& 31)) &&& nI 1 = nI 1) := by
  have hr : ∀ c, c < 8 → Lo (p.1 0 c) := fun c hc => by
    obtain ⟨-, b, hb, e⟩ := h.1.needs c hc
    exact Lo_of e hb
  have hg : cGather q.1 (nI c2) = cGather p.1 (nI c2) := by
    rw [cGather_m, cGather_m]
    exact itN_congr (fun _ a _ => itN_congr (fun c b hc => by unfold mReI; rw [(h.1.needs c hc).1]) a) _
  unfold cHasBit
  rw [bB_has _ (show c1 < 32 by omega), bB_has _ (show c1 < 32 by omega), rAt_in h2 (by decide), h.1.whole c2 h2, hg]
  exact gather_reach hr h2 hne
theorem sim_need (h : sX q p n d k t v) (x1 x2 : Int32) (x3 : Bool) : simOK q (cPutW (cPutN q.1 x1 x2 x3) 8, q.2) (mNeedQ p.1 p.2 x1 x2 x3).1 (kNeed q.1 x1 x2 x3) (gCode (nI 1) (nI 2) (nI 3) (kNeed q.1 x1 x2 x3)) (cBitCount (rAt 8 (cPutN q.1 x1 x2 x3 0) x1)) (mNeedQ p.1 p.2 x1 x2 x3).2 := by
  have k1 := kSwitch_m x1
  have k2 := kSwitch_m x2
  unfold kNeed mNeedQ
  rw [k1, k2]
  cases e1 : mIn x1 (nI 0) (nI 7) with
  | false => exact sim_f h (K := 1) rfl (by decide) (c := 1) (by decide) (by decide) rfl rfl
  | true =>
    cases e2 : mIn x2 (nI 0) (nI 7) with
    | false => exact sim_f h (K := 1) rfl (by decide) (c := 1) (by decide) (by decide) rfl rfl
    | true =>
      obtain ⟨c1, hc1, ec1, ec12⟩ := mIn_ex e1 (by decide)
      obtain ⟨c2, hc2, ec2, ec22⟩ := mIn_ex e2 (by decide)
      simp only [if_true, kT_00]
      by_cases e3 : x1 = x2
      · simp only [if_pos e3]
        exact sim_f h (K := 2) rfl (by decide) (c := 2) (by decide) (by decide) rfl rfl
      · simp only [if_neg e3]
        have hne : ¬ c1 = c2 := fun z => e3 (by rw [ec1, ec2, z])
        have hok := s_ned h (show c1 < 8 by omega) (show c2 < 8 by omega) x3
        rw [← ec1, ← ec2] at hok
        have hE : cBitCount (rAt 8 (cPutN q.1 x1 x2 x3 0) x1) = (mNdG p.1 p.2 x1 x2 x3).2 := by
          show _ = mBits (mNdR p.1 x1 x2 x3 0 (cN x1))
          rw [ec12]
          exact hok.2
        have hgo : ∀ KK, KK = 0 → simOK q (cPutW (cPutN q.1 x1 x2 x3) 8, q.2) (mNdG p.1 p.2 x1 x2 x3).1 KK (gCode (nI 1) (nI 2) (nI 3) KK) (cBitCount (rAt 8 (cPutN q.1 x1 x2 x3 0) x1)) (mNdG p.1 p.2 x1 x2 x3).2 := fun KK hKK => sim_o hKK (upF_s p.2 0 (nI 0)) (by rw [hKK]; rfl) hE ⟨n, d, k, t, v, hok.1⟩
        cases x3 with
        | false => exact hgo _ rfl
        | true =>
          simp only [if_true]
          have hR := s_reaches h (show c1 < 8 by omega) (show c2 < 8 by omega) hne
          rw [← ec1, ← ec2] at hR
          rw [hR, ec22]
          by_cases e4 : (mReach p.1 c2 >>> (x1 &&& 31)) &&& nI 1 = nI 1
          · rw [if_pos (decide_eq_true e4), if_pos e4]
            exact sim_f h (K := 3) rfl (by decide) (c := 3) (by decide) (by decide) rfl rfl
          · rw [decide_eq_false e4]
            simp only [if_neg e4, Bool.false_eq_true, if_false]
            exact hgo 0 rfl
end S95
theorem s_start : sX (cR0, cF0) (mR0, mF0) 0 0 0 0 1 := by
  have hok : mOK mR0 mF0 0 0 0 0 := ⟨rfl, by omega, rfl, by omega, rfl, by omega, rfl, by omega, fun w hw => by
    rcases (show w = 0 ∨ w = 1 by omega) with e | e
    · subst e; exact ⟨0, by omega, rfl⟩
    · subst e; exact ⟨1, by omega, rfl⟩, fun c hc => by omega⟩
  have hneeds : ∀ c, c < 8 → rFill 8 (nI 0) c = nI 0 ∧ ∃ b, b < 256 ∧ nI 0 = nI b := fun c hc => ⟨rFill_in hc, 0, by omega, rfl⟩
  have hwhole : ∀ c, c < 8 → itN 8 W3 (rFill 8 (nI 0)) c = cGather cR0 (nI c) := by decide +kernel
  have hal : ∀ u, u < 20 → (rFill 20 (nI 0) u = nI 0 ∨ rFill 20 (nI 0) u = nI 1) ∧ (rFill 20 (nI 0) u = nI 1 ↔ ∃ i, i < 0 ∧ mR0 1 i = nI u ∧ mR0 2 i = -1) := fun u hu => by
    rw [rFill_in hu]
    exact ⟨Or.inl rfl, fun z => absurd z (by decide), fun ⟨i, hi, _⟩ => by omega⟩
  have hon : ∀ (o : Nat) (u : Nat), u < 20 → ∃ b, b < 256 ∧ rFill 20 (nI 0) u = nI b ∧ ∀ c, c < 8 → (b.testBit c = true ↔ ∃ i, i < 0 ∧ mR0 1 i = nI u ∧ mR0 2 i = nI c ∧ mR0 3 i = nI o) := fun o u hu => by
    rw [rFill_in hu]
    refine ⟨0, by omega, rfl, fun c hc => ⟨fun z => ?_, fun ⟨i, hi, _⟩ => by omega⟩⟩
    rw [Nat.zero_testBit] at z
    cases z
  have hlast : ∀ s, s < 12 → rFill 12 (-1) s = lastN 0 (fun j => decide (cR0 7 j = nI s)) := fun s hs => rFill_in hs
  have hopn : ∀ g, g < 4 → rFill 4 (-1) g = mOpen mR0 0 (nI g) := fun g hg => rFill_in hg
  have hhold : ∀ w, w ≤ 0 / 14 + 1 → rPut 42 (rPut 42 (rFill 42 (-1)) (nI 0) (nI 0)) (nI 1) (nI 1) w = mR0 9 w := fun w hw => by
    rw [rPut_in (show 0 < 42 by omega) (by decide), rPut_in (show 1 < 42 by omega) (by decide)]
    rcases (show w = 0 ∨ w = 1 by omega) with e | e
    · subst e; rfl
    · subst e; rfl
  have hblot : ∀ c, c < 6 → rFill 6 (nI 0) c = nI 0 ∧ ∃ y, y ≤ 0 ∧ nI 0 = nI y := fun c hc => ⟨rFill_in hc, 0, Nat.le_refl _, rfl⟩
  have hrest : ∀ c, c < 6 → (itN 6 (fun j g => upd g j (-1)) (fun _ => nI 0) c = -1 ∧ rFill 6 (-1) c = -1) ∨ ∃ y, y ≤ 0 ∧ itN 6 (fun j g => upd g j (-1)) (fun _ => nI 0) c = nI y ∧ rFill 6 (-1) c = nI (y + 12) := fun c hc => Or.inl ⟨rFill_in (n := 6) (v := -1) (j := c) hc, rFill_in hc⟩
  have hcall : ∀ c, c < 6 → rFill 6 (nI 0) c = nI 0 ∧ rFill 6 (nI 0) c = nI 0 := fun c hc => ⟨rFill_in hc, rFill_in hc⟩
  exact ⟨⟨hok, rfl, rfl, rfl, rfl, rfl, rfl, rfl, ⟨by omega, by omega⟩, hneeds, hwhole, hal, hon 1, hon 0, fun i hi => by omega, fun c hc => by omega, fun c hc => by omega, fun c hc => by omega, hlast, fun c hc => by omega, fun c hc => by omega, fun i hi => by omega, hopn, hhold, hblot, hrest, hcall⟩, fun i h1 h2 => ⟨rFill_in h2, rFill_in h2⟩, fun i j hi => by omega⟩
