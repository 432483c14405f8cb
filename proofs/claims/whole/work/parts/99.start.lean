/-! THE CLAIM OUT OF ONE WALK OF THE LAW'S BODY. Your part is whole_start (and what it stands on); all else here is the same for every law, but numbers. -/
def R_law : String := "RotaforgeLaw"
def lw_P (b : Addr) (xs : List Int32) (args : Array Value) (s : State) : Prop := args = #[.ref b] ∧ s.IntsAt b xs ∧ xs.length ≤ 2048 ∧ (Jvm.Cond.and given_1 narrow_1).before args s = true
def lw_Q (_ : Array Value) (s : State) (o : Outcome) (t : State) : Prop := o = .returned (some (.int 1)) ∧ Framed s o t [] 601024 7293034
def lw_Z (below : List Frame) (a : Array Value) (s : State) : State → Prop := fun t => ∃ o, t.status = .running ∧ Ended t below o ∧ lw_Q a s o t
/-- the law's own end, with 1 on the stack, nothing written that was there before, its room as the claim has it -/
theorem lw_ret {p : Program} {l : Launch} {e : Env} {s : State} {m : MethodId} {below : List Frame} {meth : Method} {c : Code} {b : Nat} (hx : p.tables.exec = Jvm.exec) (hb : c.code = code) (hr : meth.sig.returnType = ret) (hlocks : meth.locks = false) {pc : Nat} {H : Heap} {ls : Array Slot} (hdg : decode code pc = .ok (.ireturn, 1)) : W p l e room_1 s m #[Value.ref b] below meth c H [] 601024 7293034 (lw_Z below #[Value.ref b] s) (F0 m pc ls [.int 1]) := by
  intro T hT X
  obtain ⟨fs, hret, hrun, hended, hW, hframe⟩ := X.leave (v := some (.int 1)) (hlocks := hlocks) (fun h => by rw [hr] at h; cases h)
  have hmeth' : T.vm.method? m = some meth := X.method'
  refine ⟨T.setFrames fs, ?_, .returned (some (.int 1)), hrun, hended, rfl, ⟨_, rfl⟩, hW, hframe⟩
  jvm_step X.here [X.here.top, hx, hb, hdg, hmeth', hr, ret, narrow_b1]
  (try refine ⟨rfl, ?_⟩); (try refine ⟨rfl, ?_⟩)
  first | (intro acts; rw [hret _ acts rfl rfl rfl]) | rw [hret _ _ rfl rfl rfl]
  exact Steps.refl _
/-- what holds at the law's entry: the machine, the code, the tables' words (any of lw_tbl by 'hts w (by decide +kernel)'), the script of L ints xs at the cell b, what the Statement gives of the start (any of its parts by flat_of_before) -/
def lw_At (p : Program) (s : State) (m : MethodId) (meth : Method) (c : Code) (b L : Nat) (xs : Nat → Int32) : Prop :=
  p.tables.exec = Jvm.exec ∧ c.code = code ∧ meth.sig.returnType = ret ∧ c.maxLocals = 7 ∧ s.vm.findClass R_law = some m.cls ∧ (∀ w ∈ lw_tbl, w.before #[Value.ref b] s = true) ∧ va_X b L xs s s.heap ∧ b < s.heap.size ∧ meth.locks = false ∧ (Jvm.Cond.and given_1 narrow_1).before #[Value.ref b] s = true
theorem and63 (a : Int32) : ∃ j, j < 64 ∧ a &&& nI 63 = nI j := by
  refine ⟨(a &&& nI 63).toBitVec.toNat, ?_, ?_⟩
  · rw [Int32.toBitVec_and, BitVec.toNat_and]
    have h : (nI 63).toBitVec.toNat = 63 := by decide
    rw [h]
    have := Nat.and_le_right (n := a.toBitVec.toNat) (m := 63)
    omega
  · apply Int32.toBitVec_inj.mp
    show (a &&& nI 63).toBitVec = BitVec.ofNat 32 ((a &&& nI 63).toBitVec.toNat)
    apply BitVec.eq_of_toNat_eq
    rw [BitVec.toNat_ofNat, Nat.mod_eq_of_lt (BitVec.isLt _)]
theorem law_exit {L i : Nat} (hL : L ≤ 2048) (hi : 4 * i ≤ L) (h : ¬ nI L - nI 4 < nI (4 * i)) : 4 * i + 4 ≤ L := by
  by_cases h4 : 4 ≤ L
  · rw [nI_subN h4, nI_ltI (by omega) (by omega)] at h
    omega
  · exfalso
    apply h
    have hi0 : i = 0 := by omega
    subst hi0
    have : ∀ L, L < 4 → nI L - nI 4 < nI (4 * 0) := by decide
    exact this L (by omega)
section SLOOP
variable {p_ : Program} {e_ : Env} {l : Launch} {s : State} {m : MethodId} {below : List Frame} {meth : Method} {c : Code} {b L : Nat} {xs : Nat → Int32} {G : gG} {zc zm : Nat → Nat} {o : Nat}
set_option maxHeartbeats 4000000 in
set_option maxRecDepth 100000 in
theorem law_loop (F : lwF p_ l s m meth c b L xs G) (Z : lwZ s zc zm o) : ∀ (r i : Nat), 4 * i ≤ L → L ≤ 4 * i + r → ∀ (q p : gRF) (n d k t v : Nat) (g : Nat → Int64) (H : Heap) (locs : List Loc) (ls : Array Slot), sX q p n d k t v → lwH G s zc zm o q p g H locs → lv_has ls 7 (lwLs b zc zm o i) → W p_ l e_ room_1 s m #[Value.ref b] below meth c H locs (71 + 5 * i) (4400 + 30 * i) (lw_Z below #[Value.ref b] s) (F0 m 23 ls []) := by
  intro r
  induction r using Nat.strongRecOn with
  | _ r ih =>
    intro i hi hr q p n d k t v g H locs ls hs hH hl
    obtain ⟨⟨hx, hb, hret, hml, hown, hts, hX, hbl, hlocks⟩, hfl, hK, hXX, hB, hL⟩ := id F
    have hS := hH.2.2.2
    refine lv_iload hx hb dL_law_23 (lv_at hl 0 rfl) ?_
    refine lv_aload_n hx hb dL_law_25 rfl (lv_at hl 4 rfl) ?_
    refine va_slen hx hb hX hbl (Nat.not_le.mpr hbl) hS dL_law_26 ?_
    refine lv_iconst (v := nI 4) hx hb dL_law_27 (by decide +kernel) ?_
    refine lv_isub hx hb dL_law_28 ?_
    refine lv_icmp_gt (tgt := 2048) hx hb dL_law_29 (by decide) (fun hgt => ?_) (fun hgt => ?_)
    · refine lv_iconst (v := 1) hx hb dL_law_2048 (by decide +kernel) ?_
      refine va_forget (fun q hq => hS.2.2 q hq) ?_
      refine W.widen (k := 601024) (n := 7293034) (by omega) (by omega) ?_
      exact lw_ret hx hb hret hlocks dL_law_2049
    · have h4 : 4 * i + 4 ≤ L := law_exit hL hi hgt
      have kk : lwGo p_ l e_ s m b below meth c G zc zm o i (71 + 5 * i + 5) (4400 + 30 * i + 30) (lw_Z below #[Value.ref b] s) := fun q p n d k t v g H locs ls hs hH hl => by
        refine lv_iinc (v := nI (4 * (i + 1))) (lv' := lwLs b zc zm o (i + 1)) (k := 0) hx hb dL_law_2042 hl rfl ?_ (by decide) rfl (fun ls hl => ?_)
        · show nI (4 * i) + nI 4 = nI (4 * (i + 1))
          rw [nI_add, Nat.mul_add]
        · refine lv_goto (tgt := 23) hx hb dL_law_2045 (by decide) ?_
          have h9 := ih (L - 4 * (i + 1)) (by omega) (i + 1) (by omega) (by omega) q p n d k t v g H locs ls hs hH hl
          rw [show 71 + 5 * (i + 1) = 71 + 5 * i + 5 by omega, show 4400 + 30 * (i + 1) = 4400 + 30 * i + 30 by omega] at h9
          exact h9
      refine lv_aload_n hx hb dL_law_32 rfl (lv_at hl 4 rfl) ?_
      refine lv_iload hx hb dL_law_33 (lv_at hl 0 rfl) ?_
      refine va_sld hx hb hX hbl (Nat.not_le.mpr hbl) hS (vp_in_nI (show 4 * i < L by omega) (by omega)) dL_law_35 ?_
      refine lv_bipush (v := nI 63) hx hb dL_law_36 (by decide +kernel) ?_
      refine lv_iand hx hb dL_law_38 ?_
      obtain ⟨j, hj, ej9⟩ := and63 (xs (nI (4 * i)).toNatClampNeg)
      rw [ej9]
      clear ej9
      rcases (show j = 0 ∨ j = 1 ∨ j = 2 ∨ j = 3 ∨ j = 4 ∨ j = 5 ∨ j = 6 ∨ j = 7 ∨ j = 8 ∨ j = 9 ∨ j = 10 ∨ j = 11 ∨ j = 12 ∨ j = 13 ∨ j = 14 ∨ j = 15 ∨ j = 16 ∨ j = 17 ∨ j = 18 ∨ j = 19 ∨ j = 20 ∨ j = 21 ∨ j = 22 ∨ j = 23 ∨ j = 24 ∨ j = 25 ∨ j = 26 ∨ j = 27 ∨ j = 28 ∨ j = 29 ∨ j = 30 ∨ j = 31 ∨ j = 32 ∨ j = 33 ∨ 34 ≤ j by omega) with ej | ej | ej | ej | ej | ej | ej | ej | ej | ej | ej | ej | ej | ej | ej | ej | ej | ej | ej | ej | ej | ej | ej | ej | ej | ej | ej | ej | ej | ej | ej | ej | ej | ej | ej
      · subst ej
        exact lv_tableIn (off := 149) (tgt := 188) hx hb dL_law_39 (by decide) (by decide) rfl (by decide) (law_k0 F Z hs hH hl h4 ⟨by omega, by omega⟩ kk)
      · subst ej
        exact lv_tableIn (off := 193) (tgt := 232) hx hb dL_law_39 (by decide) (by decide) rfl (by decide) (law_k1 F Z hs hH hl h4 ⟨by omega, by omega⟩ kk)
      · subst ej
        exact lv_tableIn (off := 289) (tgt := 328) hx hb dL_law_39 (by decide) (by decide) rfl (by decide) (law_k2 F Z hs hH hl h4 ⟨by omega, by omega⟩ kk)
      · subst ej
        exact lv_tableIn (off := 385) (tgt := 424) hx hb dL_law_39 (by decide) (by decide) rfl (by decide) (law_k3 F Z hs hH hl h4 ⟨by omega, by omega⟩ kk)
      · subst ej
        exact lv_tableIn (off := 465) (tgt := 504) hx hb dL_law_39 (by decide) (by decide) rfl (by decide) (law_k4 F Z hs hH hl h4 ⟨by omega, by omega⟩ kk)
      · subst ej
        exact lv_tableIn (off := 545) (tgt := 584) hx hb dL_law_39 (by decide) (by decide) rfl (by decide) (law_k5 F Z hs hH hl h4 ⟨by omega, by omega⟩ kk)
      · subst ej
        exact lv_tableIn (off := 613) (tgt := 652) hx hb dL_law_39 (by decide) (by decide) rfl (by decide) (law_k6 F Z hs hH hl h4 ⟨by omega, by omega⟩ kk)
      · subst ej
        exact lv_tableIn (off := 669) (tgt := 708) hx hb dL_law_39 (by decide) (by decide) rfl (by decide) (law_k7 F Z hs hH hl h4 ⟨by omega, by omega⟩ kk)
      · subst ej
        exact lv_tableIn (off := 725) (tgt := 764) hx hb dL_law_39 (by decide) (by decide) rfl (by decide) (law_k8 F Z hs hH hl h4 ⟨by omega, by omega⟩ kk)
      · subst ej
        exact lv_tableIn (off := 738) (tgt := 777) hx hb dL_law_39 (by decide) (by decide) rfl (by decide) (law_k9 F Z hs hH hl h4 ⟨by omega, by omega⟩ kk)
      · subst ej
        exact lv_tableIn (off := 794) (tgt := 833) hx hb dL_law_39 (by decide) (by decide) rfl (by decide) (law_k10 F Z hs hH hl h4 ⟨by omega, by omega⟩ kk)
      · subst ej
        exact lv_tableIn (off := 850) (tgt := 889) hx hb dL_law_39 (by decide) (by decide) rfl (by decide) (law_k11 F Z hs hH hl h4 ⟨by omega, by omega⟩ kk)
      · subst ej
        exact lv_tableIn (off := 906) (tgt := 945) hx hb dL_law_39 (by decide) (by decide) rfl (by decide) (law_k12 F Z hs hH hl h4 ⟨by omega, by omega⟩ kk)
      · subst ej
        exact lv_tableIn (off := 969) (tgt := 1008) hx hb dL_law_39 (by decide) (by decide) rfl (by decide) (law_k13 F Z hs hH hl h4 ⟨by omega, by omega⟩ kk)
      · subst ej
        exact lv_tableIn (off := 982) (tgt := 1021) hx hb dL_law_39 (by decide) (by decide) rfl (by decide) (law_k14 F Z hs hH hl h4 ⟨by omega, by omega⟩ kk)
      · subst ej
        exact lv_tableIn (off := 1066) (tgt := 1105) hx hb dL_law_39 (by decide) (by decide) rfl (by decide) (law_k15 F Z hs hH hl h4 ⟨by omega, by omega⟩ kk)
      · subst ej
        exact lv_tableIn (off := 1079) (tgt := 1118) hx hb dL_law_39 (by decide) (by decide) rfl (by decide) (law_k16 F Z hs hH hl h4 ⟨by omega, by omega⟩ kk)
      · subst ej
        exact lv_tableIn (off := 1092) (tgt := 1131) hx hb dL_law_39 (by decide) (by decide) rfl (by decide) (law_k17 F Z hs hH hl h4 ⟨by omega, by omega⟩ kk)
      · subst ej
        exact lv_tableIn (off := 1148) (tgt := 1187) hx hb dL_law_39 (by decide) (by decide) rfl (by decide) (law_k18 F Z hs hH hl h4 ⟨by omega, by omega⟩ kk)
      · subst ej
        exact lv_tableIn (off := 1204) (tgt := 1243) hx hb dL_law_39 (by decide) (by decide) rfl (by decide) (law_k19 F Z hs hH hl h4 ⟨by omega, by omega⟩ kk)
      · subst ej
        exact lv_tableIn (off := 1279) (tgt := 1318) hx hb dL_law_39 (by decide) (by decide) rfl (by decide) (law_k20 F Z hs hH hl h4 ⟨by omega, by omega⟩ kk)
      · subst ej
        exact lv_tableIn (off := 1342) (tgt := 1381) hx hb dL_law_39 (by decide) (by decide) rfl (by decide) (law_k21 F Z hs hH hl h4 ⟨by omega, by omega⟩ kk)
      · subst ej
        exact lv_tableIn (off := 1398) (tgt := 1437) hx hb dL_law_39 (by decide) (by decide) rfl (by decide) (law_k22 F Z hs hH hl h4 ⟨by omega, by omega⟩ kk)
      · subst ej
        exact lv_tableIn (off := 1411) (tgt := 1450) hx hb dL_law_39 (by decide) (by decide) rfl (by decide) (law_k23 F Z hs hH hl h4 ⟨by omega, by omega⟩ kk)
      · subst ej
        exact lv_tableIn (off := 1467) (tgt := 1506) hx hb dL_law_39 (by decide) (by decide) rfl (by decide) (law_k24 F Z hs hH hl h4 ⟨by omega, by omega⟩ kk)
      · subst ej
        exact lv_tableIn (off := 1523) (tgt := 1562) hx hb dL_law_39 (by decide) (by decide) rfl (by decide) (law_k25 F Z hs hH hl h4 ⟨by omega, by omega⟩ kk)
      · subst ej
        exact lv_tableIn (off := 1598) (tgt := 1637) hx hb dL_law_39 (by decide) (by decide) rfl (by decide) (law_k26 F Z hs hH hl h4 ⟨by omega, by omega⟩ kk)
      · subst ej
        exact lv_tableIn (off := 1654) (tgt := 1693) hx hb dL_law_39 (by decide) (by decide) rfl (by decide) (law_k27 F Z hs hH hl h4 ⟨by omega, by omega⟩ kk)
      · subst ej
        exact lv_tableIn (off := 1710) (tgt := 1749) hx hb dL_law_39 (by decide) (by decide) rfl (by decide) (law_k28 F Z hs hH hl h4 ⟨by omega, by omega⟩ kk)
      · subst ej
        exact lv_tableIn (off := 1723) (tgt := 1762) hx hb dL_law_39 (by decide) (by decide) rfl (by decide) (law_k29 F Z hs hH hl h4 ⟨by omega, by omega⟩ kk)
      · subst ej
        exact lv_tableIn (off := 1779) (tgt := 1818) hx hb dL_law_39 (by decide) (by decide) rfl (by decide) (law_k30 F Z hs hH hl h4 ⟨by omega, by omega⟩ kk)
      · subst ej
        exact lv_tableIn (off := 1835) (tgt := 1874) hx hb dL_law_39 (by decide) (by decide) rfl (by decide) (law_k31 F Z hs hH hl h4 ⟨by omega, by omega⟩ kk)
      · subst ej
        exact lv_tableIn (off := 1891) (tgt := 1930) hx hb dL_law_39 (by decide) (by decide) rfl (by decide) (law_k32 F Z hs hH hl h4 ⟨by omega, by omega⟩ kk)
      · subst ej
        exact lv_tableIn (off := 1947) (tgt := 1986) hx hb dL_law_39 (by decide) (by decide) rfl (by decide) (law_k33 F Z hs hH hl h4 ⟨by omega, by omega⟩ kk)
      · refine lv_tableOut (tgt := 2042) hx hb dL_law_39 (Or.inr (by rw [nI_toInt (by omega)]; omega)) (by decide) ?_
        exact W.widen (by omega) (by omega) (kk q p n d k t v g H locs ls hs hH hl)
end SLOOP
theorem va_all {A : Nat → Prop} {ws : va_W} {z : Nat → Nat} {N : Nat} (h : ws.map Prod.fst = (List.range N).map z) (hD : va_D A ws) : ∀ k, k < N → A (z k) := by
  intro k hk
  have h1 : (ws.map Prod.fst)[k]? = some (z k) := by rw [h, List.getElem?_map, List.getElem?_range hk]; rfl
  rw [List.getElem?_map] at h1
  cases hq : ws[k]? with
  | none => rw [hq] at h1; cases h1
  | some q =>
    rw [hq] at h1
    have h2 : q.1 = z k := Option.some.inj h1
    rw [← h2]
    exact hD.2 k q hq
set_option maxHeartbeats 4000000 in
set_option maxRecDepth 100000 in
theorem law_zz {s : State} {G : gG} {zc zm : Nat → Nat} {o : Nat} {r r2 : Nat → Nat → Int32} {f f2 : Nat → Int32} {x : va_E} (hD : va_D (fun q => s.heap.size ≤ q) ((wRF G zc r f ++ wRM G zm r2 f2) ++ [(o, x)])) : lwZ s zc zm o := by
  obtain ⟨zz, hzz⟩ : ∃ zz : Nat → Nat, zz = (fun k => if k < 50 then zc k else if k < 70 then zm (k - 50) else o) := ⟨_, rfl⟩
  have hmap : ((wRF G zc r f ++ wRM G zm r2 f2) ++ [(o, x)]).map Prod.fst = (List.range 71).map zz := by rw [hzz]; rfl
  have h1 := gDis_of hmap hD
  have h2 : ∀ k, k < 71 → s.heap.size ≤ zz k := va_all hmap hD
  have ec : ∀ k, k < 50 → zz k = zc k := fun k hk => by rw [hzz]; exact if_pos hk
  have em : ∀ k, k < 20 → zz (50 + k) = zm k := fun k hk => by
    rw [hzz]
    show (if 50 + k < 50 then zc (50 + k) else if 50 + k < 70 then zm (50 + k - 50) else o) = zm k
    rw [if_neg (by omega), if_pos (by omega), show 50 + k - 50 = k by omega]
  have eo : zz 70 = o := by rw [hzz]; rfl
  refine ⟨fun i j hi hj e => h1 i j (by omega) (by omega) (by rw [ec i hi, ec j hj, e]), fun i j hi hj e => ?_, fun i j hi hj e => ?_, fun k hk e => ?_, fun k hk e => ?_, fun k hk => ?_, fun k hk => ?_, ?_⟩
  · have := h1 (50 + i) (50 + j) (by omega) (by omega) (by rw [em i hi, em j hj, e])
    omega
  · have := h1 i (50 + j) (by omega) (by omega) (by rw [ec i hi, em j hj, e])
    omega
  · have := h1 70 k (by omega) (by omega) (by rw [eo, ec k hk, e])
    omega
  · have := h1 70 (50 + k) (by omega) (by omega) (by rw [eo, em k hk, e])
    omega
  · have := h2 k (by omega); rw [ec k hk] at this; exact this
  · have := h2 (50 + k) (by omega); rw [em k hk] at this; exact this
  · have := h2 70 (by omega); rw [eo] at this; exact this
set_option maxHeartbeats 4000000 in
set_option maxRecDepth 100000 in
theorem whole_start {p : Program} {e : Env} {s : State} {m : MethodId} {below : List Frame} {meth : Method} {c : Code} (l : Launch) (hflags : l.flags = flags0) {b L : Nat} {xs : Nat → Int32} (hL : L ≤ 2048) (C0 : lw_At p s m meth c b L xs) : W p l e room_1 s m #[Value.ref b] below meth c s.heap [] 0 0 (lw_Z below #[Value.ref b] s) (entryFrame m ([Value.ref b] : List Value).toArray 7) := by
  obtain ⟨hx, hb, hr, hml, hown, hts0, hX, hbl, hlocks, hgv⟩ := id C0
  have hts : ∀ w ∈ wsL_law, w.before #[Value.ref b] s = true := fun w hw => hts0 w (wsL_law_in w hw)
  obtain ⟨G, hB, hK⟩ := law_K hts0 s.heap.size
  have hXX := law_X hts0 hgv hB
  have F : lwF p l s m meth c b L xs G := ⟨⟨hx, hb, hr, hml, hown, hts, hX, hbl, hlocks⟩, law_fl hflags, hK, hXX, hB, hL⟩
  have S0 := law_S0 F
  have hA : ∀ q : Nat, s.heap.size ≤ q → (fun q : Nat => s.heap.size ≤ q) q := fun _ h => h
  have hS : va_S (fun q : Nat => s.heap.size ≤ q) s.heap s.heap [] := va_S.rf
  have hP : va_P G.1 vwCl [] s.heap := fun k q h => by simp at h
  have hD : va_D (fun q : Nat => s.heap.size ≤ q) [] := ⟨fun i j p q h => by simp at h, fun k q h => by simp at h⟩
  have hl := lv_entry ([.ref b]) (n := 7) (Nat.le_of_ble_eq_true rfl)
  rw [lg_entry_eq]
  generalize (lg_sl ([.ref b]) ++ List.replicate (7 - (lg_sl ([.ref b])).length) Slot.unset).toArray = ls at hl ⊢
  have hl : lv_has ls 7 [(0, .ref b)] := hl
  refine va_new (ci := 6) (fs := [.null, .null, .null, .null, .null, .int 0, .int 0]) (C := RX6) (T := TX6) (N := 7) hx hb hts inlX6 tyX6 tyX6_ok hown (hts0 (.classLink RL 8 RX6) (by decide +kernel)) (hts0 (.instantiable RX6 7) (by decide +kernel)) (hts0 (.initialized RX6) (by decide +kernel)) hK.1 hP hD hS hA rfl (fun j hj => by rcases (show j = 0 ∨ j = 1 ∨ j = 2 ∨ j = 3 ∨ j = 4 ∨ j = 5 ∨ j = 6 by omega) with rfl | rfl | rfl | rfl | rfl | rfl | rfl <;> rfl) (Nat.le_of_ble_eq_true rfl) (Nat.le_of_ble_eq_true rfl) dL_law_0 (fun hc H hP hD hS => ?_)
  refine W.widen (k := 1) (n := 7) (Nat.le_of_ble_eq_true rfl) (Nat.le_of_ble_eq_true rfl) ?_
  refine lv_dup hx hb dL_law_3 rfl ?_
  refine g_calln (w := []) (va_runI (As := []) (rest := [.ref hc]) S0 (c_X6_init l G _ hc (hP.sub [0] rfl)) (cwI 0 hts gL_law_X6_init rfl rfl rfl (hts0 (.initialized RX6) (by decide +kernel)) (hts0 (.methodLink RL 107 yX6_init) (by decide +kernel)) (hts0 (.instanceMethod yX6_init) (by decide +kernel)) rfl (by decide +kernel) ⟨Nat.le_of_ble_eq_true rfl, Nat.le_of_ble_eq_true rfl⟩) (g_preS hK) rfl rfl hl.1 rfl (lv_room (Nat.le_of_ble_eq_true rfl)) dL_law_4 ⟨Nat.le_of_ble_eq_true rfl, Nat.le_of_ble_eq_true rfl⟩) hP hD hS hA (fun uc H locs hP hD hS => ?_)
  obtain ⟨zc, hzc⟩ : ∃ zc : Nat → Nat, zc = (fun k => if k = 0 then hc else uc k) := ⟨_, rfl⟩
  have hz0 : zc 0 = hc := by rw [hzc]; rfl
  have hP : va_P G.1 vwCl (wRF G zc cR0 cF0) H := by rw [hzc]; exact hP
  have hD : va_D (fun q : Nat => s.heap.size ≤ q) (wRF G zc cR0 cF0) := by rw [hzc]; exact hD
  refine W.widen (k := 50) (n := 2213) (Nat.le_of_ble_eq_true rfl) (Nat.le_of_ble_eq_true rfl) ?_
  refine lv_astore_n (lv' := [(1, .ref hc), (0, .ref b)]) hx hb dL_law_7 rfl hl (by decide) rfl (fun ls hl => ?_)
  refine va_new (ci := 7) (fs := [.int 0, .int 0, .int 0, .null, .int 0, .null, .null, .null, .int 0, .null, .null, .null, .null, .null, .null, .null, .null, .null, .null, .int 0, .int 0, .null, .null, .null, .null, .null]) (C := RX7) (T := TX7) (N := 26) hx hb hts inlX7 tyX7 tyX7_ok hown (hts0 (.classLink RL 108 RX7) (by decide +kernel)) (hts0 (.instantiable RX7 26) (by decide +kernel)) (hts0 (.initialized RX7) (by decide +kernel)) hK.1 hP hD hS hA rfl (fun j hj => by rcases (show j = 0 ∨ j = 1 ∨ j = 2 ∨ j = 3 ∨ j = 4 ∨ j = 5 ∨ j = 6 ∨ j = 7 ∨ j = 8 ∨ j = 9 ∨ j = 10 ∨ j = 11 ∨ j = 12 ∨ j = 13 ∨ j = 14 ∨ j = 15 ∨ j = 16 ∨ j = 17 ∨ j = 18 ∨ j = 19 ∨ j = 20 ∨ j = 21 ∨ j = 22 ∨ j = 23 ∨ j = 24 ∨ j = 25 by omega) with rfl | rfl | rfl | rfl | rfl | rfl | rfl | rfl | rfl | rfl | rfl | rfl | rfl | rfl | rfl | rfl | rfl | rfl | rfl | rfl | rfl | rfl | rfl | rfl | rfl | rfl <;> rfl) (Nat.le_of_ble_eq_true rfl) (Nat.le_of_ble_eq_true rfl) dL_law_8 (fun hm H hP hD hS => ?_)
  refine W.widen (k := 51) (n := 2239) (Nat.le_of_ble_eq_true rfl) (Nat.le_of_ble_eq_true rfl) ?_
  refine lv_dup hx hb dL_law_11 rfl ?_
  refine g_calln (w := wRF G zc cR0 cF0) (va_runI (As := []) (rest := [.ref hm]) S0 (c_X7_init l G _ hm (hP.sub [50] rfl)) (cwI 0 hts gL_law_X7_init rfl rfl rfl (hts0 (.initialized RX7) (by decide +kernel)) (hts0 (.methodLink RL 110 yX7_init) (by decide +kernel)) (hts0 (.instanceMethod yX7_init) (by decide +kernel)) rfl (by decide +kernel) ⟨Nat.le_of_ble_eq_true rfl, Nat.le_of_ble_eq_true rfl⟩) (g_preS hK) rfl rfl hl.1 rfl (lv_room (Nat.le_of_ble_eq_true rfl)) dL_law_12 ⟨Nat.le_of_ble_eq_true rfl, Nat.le_of_ble_eq_true rfl⟩) hP hD hS hA (fun um H locs hP hD hS => ?_)
  obtain ⟨zm, hzm⟩ : ∃ zm : Nat → Nat, zm = (fun k => if k = 0 then hm else um k) := ⟨_, rfl⟩
  have hm0 : zm 0 = hm := by rw [hzm]; rfl
  have hP : va_P G.1 vwCl (wRF G zc cR0 cF0 ++ wRM G zm mR0 mF0) H := by rw [hzm]; exact hP
  have hD : va_D (fun q : Nat => s.heap.size ≤ q) (wRF G zc cR0 cF0 ++ wRM G zm mR0 mF0) := by rw [hzm]; exact hD
  refine W.widen (k := 70) (n := 4386) (Nat.le_of_ble_eq_true rfl) (Nat.le_of_ble_eq_true rfl) ?_
  refine lv_astore_n (lv' := [(2, .ref hm), (1, .ref hc), (0, .ref b)]) hx hb dL_law_15 rfl hl (by decide) rfl (fun ls hl => ?_)
  refine lv_iconst (v := nI 1) hx hb dL_law_16 (by decide +kernel) ?_
  refine va_newa (atype := .long) (ty := .long) (N' := 1) (a0 := (1, .inr (.inl (fun _ => 0)))) hx hb (hts0 (.arrayClass .long) (by decide +kernel)) rfl hK.1 hP hD hS hA (fun cA => rfl) (by decide) (nI_clamp (by decide)) (by show 1 * 8 ≤ _; omega) (Nat.le_of_ble_eq_true rfl) (Nat.le_of_ble_eq_true rfl) dL_law_17 (fun o cA H hK1 hP hD hS => ?_)
  have eJ : cA = gJ G := Option.some.inj ((hK1.2 3 (cA, .long) rfl).2.symm.trans (hK.1.2 2 _ rfl).2)
  subst eJ
  have hP : va_P G.1 vwCl ((wRF G zc cR0 cF0 ++ wRM G zm mR0 mF0) ++ [gOut G o (fun _ => 0)]) H := hP
  have hZ : lwZ s zc zm o := law_zz hD
  have hH : lwH G s zc zm o (cR0, cF0) (mR0, mF0) (fun _ => 0) H locs := ⟨hP.sub (List.range 50) rfl, hP.sub [50, 51, 52, 53, 54, 55, 56, 57, 58, 59, 60, 61, 62, 63, 64, 65, 66, 67, 68, 69] rfl, hP 70 _ rfl, hS⟩
  refine W.widen (k := 71 + 5 * 0) (n := 4400 + 30 * 0) (Nat.le_of_ble_eq_true rfl) (Nat.le_of_ble_eq_true rfl) ?_
  refine lv_astore_n (lv' := [(3, .ref o), (2, .ref hm), (1, .ref hc), (0, .ref b)]) hx hb dL_law_19 rfl hl (by decide) rfl (fun ls hl => ?_)
  refine lv_iconst (v := nI 0) hx hb dL_law_20 (by decide +kernel) ?_
  refine lv_istore (lv' := [(4, .int (nI 0)), (3, .ref o), (2, .ref hm), (1, .ref hc), (0, .ref b)]) hx hb dL_law_21 hl (by decide) rfl (fun ls hl => ?_)
  rw [← hz0, ← hm0] at hl
  exact law_loop F hZ L 0 (Nat.zero_le _) (by omega) (cR0, cF0) (mR0, mF0) 0 0 0 0 1 (fun _ => 0) H locs ls s_start hH hl
