abbrev xIOB : String := "java/lang/IndexOutOfBoundsException"
abbrev xIAE : String := "java/lang/IllegalArgumentException"
abbrev xISE : String := "java/lang/IllegalStateException"
abbrev gNm : List String := ["java/lang/RuntimeException", "java/lang/Exception"]
abbrev gExs : List String := [xIOB, xIAE, xISE]
abbrev gStr : List (Nat × String) := [(53, "there are 20 versions"), (249, "no such version"), (247, "no such switch"), (69, "there are 24 defects"), (77, "a switch does not need itself"), (84, "the other switch needs this one"), (243, "no such person"), (96, "a level is 0 to 4"), (255, "the person rests"), (257, "there are 200 changes"), (104, "the switch has this level"), (245, "no such ring"), (115, "the ring runs this version"), (120, "the ring is held back"), (251, "no such change"), (134, "a later change is of the same switch or ring"), (145, "the person is the holder of this week or of the next one"), (151, "1 to 28 halves pass"), (153, "the time would be above 560"), (167, "no holder is known of such a week"), (253, "no such incident")]
abbrev gDc : List String := ["java/lang/RuntimeException", "java/lang/Exception", Bundle.tN]
abbrev gNg (cls : String) : List Cond := [Cond.castable cls cls, .declares (Bundle.initS "java/lang/RuntimeException"), .declares (Bundle.initS "java/lang/Exception"), .declares (Bundle.initS Bundle.tN)]
def gEx (k : Nat) : String := if k = 1 then xIOB else if k = 2 then xIAE else xISE
def kT (a b : Nat) : Nat := if a = 0 then b else a
theorem kT_0 {a b : Nat} (h : a = 0) : kT a b = b := if_pos h
theorem kT_n {a b : Nat} (h : ¬ a = 0) : kT a b = a := if_neg h
def gX (G : gG) (U : State) (H : Heap) : Prop := (vx_Zq Bundle.tN "UNASSIGNED_STACK" Bundle.steD (fun q => gB G ≤ q) U H ∧ vx_Zq Bundle.tN "SUPPRESSED_SENTINEL" Bundle.listD (fun q => gB G ≤ q) U H) ∧ (∀ q ∈ gStr, ∃ sa : Nat, vk_R RX6 q.1 q.2 sa U) ∧ (∀ q ∈ gExs, va_Nw (.castable q q) U) ∧ (∀ q ∈ gDc, va_Nw (.declares (Bundle.initS q)) U)
theorem gX.warm {G : gG} {s U : State} {H : Heap} (hW : s.WarmedH U.vm) (h : gX G s H) : gX G U H :=
  ⟨⟨vx_Zq.moved hW.alike h.1.1, vx_Zq.moved hW.alike h.1.2⟩, fun q hq => (h.2.1 q hq).imp fun _ k => vk_R.warm hW k, fun q hq => va_Nw.warmC hW (h.2.2.1 q hq), fun q hq => va_Nw.warmD hW (h.2.2.2 q hq)⟩
theorem gX.calling {G : gG} {U : State} {H : Heap} {g : JFrame} {mk : MethodId} {a : Array Value} (h : gX G U H) : gX G (U.calling g mk a) H :=
  ⟨⟨vx_Zq.moved (u := U) (U := U.calling g mk a) (Vm.Alike.refl U.vm) h.1.1, vx_Zq.moved (u := U) (U := U.calling g mk a) (Vm.Alike.refl U.vm) h.1.2⟩, fun q hq => (h.2.1 q hq).imp fun _ k => vk_R.same (u := U) (U := U.calling g mk a) rfl k, fun q hq => va_Nw.same (u := U) (U := U.calling g mk a) rfl rfl (h.2.2.1 q hq), fun q hq => va_Nw.same (u := U) (U := U.calling g mk a) rfl rfl (h.2.2.2 q hq)⟩
theorem gX.kept {G : gG} {U : State} {H H1 : Heap} (h : gX G U H) (hk : ∀ q : Nat, q < H.size → ¬ gB G ≤ q → H1[q]? = H[q]?) : gX G U H1 := ⟨⟨h.1.1.kept hk, h.1.2.kept hk⟩, h.2⟩
def gPx (G : gG) (H0 : Heap) (av : List Value) : Array Value → State → Prop := va_Pc av (fun U => U.heap = H0 ∧ gK G U ∧ gX G U H0)
theorem gPx_blind {G : gG} {H0 : Heap} {av : List Value} : FrameBlind (gPx G H0 av) := fun _ _ _ _ q => ⟨q.1, q.2.1, q.2.2.1.calling, q.2.2.2.calling⟩
theorem g_preXV {s : State} {G : gG} {H : Heap} {ws : va_W} {b : Nat} {As : List Value} (hK : gK G s) (hX : gX G s H) (hP : va_P G.1 vwCl ws H) {q0 ci : Nat} {q : vw_C} {fs : List Value} (hc : vwCl[ci]? = some q) (he : ws[q0]? = some (b, .inr (ci, fs))) : PreV s H q.1 b (gPx G H (.ref b :: As)) As :=
  ⟨gPx_blind, va_recv hK.1 hP hc he, fun _ hU hW => ⟨rfl, hU, hK.warm hW, hX.warm hW⟩⟩
theorem g_preXS {s : State} {G : gG} {H : Heap} {As : List Value} (hK : gK G s) (hX : gX G s H) : PreS s H (gPx G H As) As := ⟨gPx_blind, fun _ hU hW => ⟨rfl, hU, hK.warm hW, hX.warm hW⟩⟩
abbrev gXC (K : Nat) : String → State → State → Prop := vx_X (fun (_ : Unit) => ¬ K = 0) (fun E _ _ => E = gEx K) (fun _ => False)
abbrev gMxr (l : Launch) (y : MethodName) (ws : List Cond) (fr lo mc : Nat) (G : gG) (H0 : Heap) (av : List Value) (K : Nat) (E : Int32) : Prop := vx_Met l y ws { frames := fr, cells := mc, slots := 6 * mc, locals := lo } (gPx G H0 av) (va_Qi (fun (x : Int32) (_ : Unit) => K = 0 ∧ x = E) (fun _ t => t.heap = H0) (fun _ => False)) (gXC K) mc (6 * mc) (fun _ => False)
abbrev gMxv (l : Launch) (y : MethodName) (ws : List Cond) (fr lo mc : Nat) (G : gG) (H0 : Heap) (av : List Value) (K : Nat) : Prop := vx_Met l y ws { frames := fr, cells := mc, slots := 6 * mc, locals := lo } (gPx G H0 av) (va_Qv (fun (_ : Unit) => K = 0) (fun _ t => t.heap = H0) (fun _ => False)) (gXC K) mc (6 * mc) (fun _ => False)
abbrev gMxw (l : Launch) (y : MethodName) (ws : List Cond) (fr lo mc : Nat) (G : gG) (H0 : Heap) (av : List Value) (K : Nat) (E : Int32) (w' : va_W) (A : Nat → Prop) : Prop := vx_Met l y ws { frames := fr, cells := mc, slots := 6 * mc, locals := lo } (gPx G H0 av) (va_Qi (fun (x : Int32) (_ : Unit) => K = 0 ∧ x = E) (fun _ t => va_P G.1 vwCl w' t.heap) A) (gXC K) mc (6 * mc) A
theorem gS_up {A : Nat → Prop} {H0 H : Heap} {locs : List Loc} (h : va_S (fun _ => False) H0 H locs) : va_S A H0 H locs := ⟨h.1, fun q a _ => h.2.1 q a id, fun q hq => (h.2.2 q hq).elim⟩
theorem gX_hat {args : Array Value} {s : State} {G : gG} {H : Heap} {ic : Nat} {cls : String} (hX : gX G s H) (hex : cls ∈ gExs) (h1 : ∀ w ∈ (vx_atS RX6 ic cls gNm).filter goodWord, w.before args s = true) (h2 : ∀ w ∈ (vx_atS RX6 ic cls gNm).filter (fun w => !goodWord w), w ∈ gNg cls) : ∀ w ∈ vx_atS RX6 ic cls gNm, w.before args s = true :=
  vx_hat h1 h2 (fun w hw => by
    rcases List.mem_cons.mp hw with h | hw
    · rw [h]; exact va_Nw.use rfl (hX.2.2.1 cls hex)
    rcases List.mem_cons.mp hw with h | hw
    · rw [h]; exact va_Nw.use rfl (hX.2.2.2 _ (List.mem_of_getElem? (i := 0) rfl))
    rcases List.mem_cons.mp hw with h | hw
    · rw [h]; exact va_Nw.use rfl (hX.2.2.2 _ (List.mem_of_getElem? (i := 1) rfl))
    rw [List.mem_singleton.mp hw]
    exact va_Nw.use rfl (hX.2.2.2 _ (List.mem_of_getElem? (i := 2) rfl)))
section GX
variable {p : Program} {l : Launch} {e : Env} {R : Room} {s : State} {m : MethodId} {args : Array Value} {below : List Frame} {meth : Method} {c : Code} {H : Heap} {locs : List Loc} {cells slots : Nat} {Q : State → Prop} {pc : Nat} {ls : Array Slot} {rest st0 : List Value} {a : Array Value} {Qc : Array Value → State → Outcome → State → Prop} {mc ms MC MS : Nat} {free : Addr → Prop} {cc : ByteArray} {K Kc : Nat}
theorem g_throwS (hexec : p.tables.exec = Jvm.exec) (hb : c.code = cc) (hl : l.stackTraces = false) {cls text : String} {ik is ic : Nat} {G : gG} (hown : s.vm.findClass RX6 = some m.cls) (hX : gX G s s.heap) (hcls : Bundle.fit cls = true) (hk : (Cond.classLink RX6 ik cls).before args s = true) (hini : (Cond.initialized cls).before args s = true)
    (hgd : ∀ w ∈ (vx_atS RX6 ic cls gNm).filter goodWord, w.before args s = true) (hng : ∀ w ∈ (vx_atS RX6 ic cls gNm).filter (fun w => !goodWord w), w ∈ gNg cls) (hgood : ∀ w ∈ Cond.classLink RX6 ik cls :: Cond.initialized cls :: vx_atS RX6 ic cls gNm, vx_ot w = true) (hst : (is, text) ∈ gStr) (hex : cls ∈ gExs)
    (hS : va_S (fun _ => False) s.heap H locs) (hsize : ls.size = c.maxLocals) (hK : ¬ K = 0) (hE : cls = gEx K)
    (d0 : decode cc pc = .ok (.new ik, 3)) (d3 : decode cc (pc + 3) = .ok (.dup, 1)) (d4 : decode cc (pc + 4) = .ok (.ldc is, 2)) (d6 : decode cc (pc + 6) = .ok (.invokespecial ic, 3)) (d9 : decode cc (pc + 9) = .ok (.athrow, 1))
    (hout : ∀ x ∈ c.exceptionTable.toList, False) (hlocks : meth.locks = false) (hR : 5 < R.frames ∧ (rest.map fun v => v.category).sum + 82 ≤ R.locals ∧ cells + 1 ≤ R.cells ∧ slots + 6 ≤ R.slots) (hc : cells + 1 ≤ mc ∧ slots + 6 ≤ ms) :
    W p l e R s m args below meth c H locs cells slots (vx_MQ below Qc (gXC K) args s mc ms free) (F0 m pc ls rest) := by
  obtain ⟨sa, hstr⟩ := hX.2.1 _ hst
  refine vx_throwS (A := fun _ => False) (names := gNm) hexec hb hl hown hcls (by decide) hk hini hstr (gX_hat hX hex hgd hng) hgood (hX.1.1.narrow (fun q h => h.elim)) (hX.1.2.narrow (fun q h => h.elim)) hS hsize d0 d3 d4 d6 d9 (fun x hx => (hout x hx).elim) hR.1 ?_ hR.2.2.1 hR.2.2.2 hlocks (fun t hA hz hk => ⟨(), hK, hE, Nat.le_trans hS.1 hz, fun q hq _ => (hk q (Nat.lt_of_lt_of_le hq hS.1)).trans (hS.2.1 q hq id)⟩) (fun z hz => (hS.2.2 z hz).elim) hc.1 hc.2
  have h9 : (13 * ((gNm).length + 1) + 43) = 82 := rfl
  rw [h9]
  exact hR.2.1
theorem g_throwSW (hexec : p.tables.exec = Jvm.exec) (hb : c.code = cc) (hl : l.stackTraces = false) {cls text : String} {ik is ic : Nat} {G : gG} (hown : s.vm.findClass RX6 = some m.cls) (hX : gX G s s.heap) (hcls : Bundle.fit cls = true) (hk : (Cond.classLink RX6 ik cls).before args s = true) (hini : (Cond.initialized cls).before args s = true)
    (hgd : ∀ w ∈ (vx_atS RX6 ic cls gNm).filter goodWord, w.before args s = true) (hng : ∀ w ∈ (vx_atS RX6 ic cls gNm).filter (fun w => !goodWord w), w ∈ gNg cls) (hgood : ∀ w ∈ Cond.classLink RX6 ik cls :: Cond.initialized cls :: vx_atS RX6 ic cls gNm, vx_ot w = true) (hst : (is, text) ∈ gStr) (hex : cls ∈ gExs)
    (hS : va_S (fun _ => False) s.heap H locs) (hsize : ls.size = c.maxLocals) (hK : ¬ K = 0) (hE : cls = gEx K)
    (d0 : decode cc pc = .ok (.new ik, 3)) (d3 : decode cc (pc + 3) = .ok (.dup, 1)) (d4 : decode cc (pc + 4) = .ok (.ldc_w is, 3)) (d7 : decode cc (pc + 7) = .ok (.invokespecial ic, 3)) (d10 : decode cc (pc + 10) = .ok (.athrow, 1))
    (hout : ∀ x ∈ c.exceptionTable.toList, False) (hlocks : meth.locks = false) (hR : 5 < R.frames ∧ (rest.map fun v => v.category).sum + 82 ≤ R.locals ∧ cells + 1 ≤ R.cells ∧ slots + 6 ≤ R.slots) (hc : cells + 1 ≤ mc ∧ slots + 6 ≤ ms) :
    W p l e R s m args below meth c H locs cells slots (vx_MQ below Qc (gXC K) args s mc ms free) (F0 m pc ls rest) := by
  obtain ⟨sa, hstr⟩ := hX.2.1 _ hst
  refine vx_throwSW (A := fun _ => False) (names := gNm) hexec hb hl hown hcls (by decide) hk hini hstr (gX_hat hX hex hgd hng) hgood (hX.1.1.narrow (fun q h => h.elim)) (hX.1.2.narrow (fun q h => h.elim)) hS hsize d0 d3 d4 d7 d10 (fun x hx => (hout x hx).elim) hR.1 ?_ hR.2.2.1 hR.2.2.2 hlocks (fun t hA hz hk => ⟨(), hK, hE, Nat.le_trans hS.1 hz, fun q hq _ => (hk q (Nat.lt_of_lt_of_le hq hS.1)).trans (hS.2.1 q hq id)⟩) (fun z hz => (hS.2.2 z hz).elim) hc.1 hc.2
  have h9 : (13 * ((gNm).length + 1) + 43) = 82 := rfl
  rw [h9]
  exact hR.2.1
theorem g_kx (hS : va_S (fun _ => False) s.heap H locs) (hout : ∀ x ∈ c.exceptionTable.toList, False) (hlocks : meth.locks = false) (hKK : ¬ Kc = 0 → ¬ K = 0 ∧ gEx Kc = gEx K) (hc : cells + mc ≤ MC ∧ slots + ms ≤ MS) :
    ∀ (E : String) (ce : Cell) (q9 : Addr) (u : Unit) (t : State) (H1 : Heap) (locs1 : List Loc), t.heap = H1 → s.vm.Alike t.vm → ¬ Kc = 0 → E = gEx Kc → H.size ≤ H1.size → (∀ q : Nat, q < H.size → ¬ (fun _ : Nat => False) q → H1[q]? = H[q]?) → va_S (fun _ => False) s.heap H1 locs1 → H1[q9]? = some ce → ce.vm = .none → s.vm.findClass E = some ce.cls → vx_W p l e R s m args below meth c H1 locs1 (cells + mc) (slots + ms) (vx_MQ below Qc (gXC K) args s MC MS free) (F0 m pc ls rest) q9 := by
  intro E ce q9 u t H1 locs1 ht hvm hk hE hz hkeep hS1 hcell hv hcl
  obtain ⟨k1, k2⟩ := hKK hk
  exact vx_out (fun x hx => (hout x hx).elim) hlocks hcell hv hcl (fun t2 ht2 hA => ⟨(), k1, hE.trans k2, by rw [ht2]; exact hS1.1, fun q hq _ => by rw [ht2]; exact hS1.2.1 q hq id⟩) (fun z hz => (hS1.2.2 z hz).elim) hc.1 hc.2
theorem g_xv (hr : vx_Run p l e R s m args below meth c H locs cells slots mc ms (F0 m pc ls st0) rest (va_Qv (fun (_ : Unit) => Kc = 0) (fun _ t => t.heap = H) (fun _ => False) a) (gXC Kc) (fun _ => False)) (hS : va_S (fun _ => False) s.heap H locs) (hout : ∀ x ∈ c.exceptionTable.toList, False) (hlocks : meth.locks = false) (hKK : ¬ Kc = 0 → ¬ K = 0 ∧ gEx Kc = gEx K) (hc : cells + mc ≤ MC ∧ slots + ms ≤ MS)
    (kk : Kc = 0 → ∀ locs1, va_S (fun _ => False) s.heap H locs1 → W p l e R s m args below meth c H locs1 (cells + mc) (slots + ms) (vx_MQ below Qc (gXC K) args s MC MS free) (F0 m (pc + 3) ls rest)) :
    W p l e R s m args below meth c H locs cells slots (vx_MQ below Qc (gXC K) args s MC MS free) (F0 m pc ls st0) :=
  vx_callv hr hS (fun _ _ h => h) (fun _ h => h) (fun _ _ h => h) (g_kx hS hout hlocks hKK hc) (fun _ t H1 locs1 ht _ hw hB _ _ hS9 => by
    have h9 : H1 = H := ht.symm.trans hB
    subst h9
    exact kk hw locs1 hS9)
end GX
theorem hng55 : ∀ w ∈ (vx_atS RX6 55 xISE gNm).filter (fun w => !goodWord w), w ∈ gNg xISE := by decide +kernel
theorem hng169 : ∀ w ∈ (vx_atS RX6 169 xIOB gNm).filter (fun w => !goodWord w), w ∈ gNg xIOB := by decide +kernel
theorem hng79 : ∀ w ∈ (vx_atS RX6 79 xIAE gNm).filter (fun w => !goodWord w), w ∈ gNg xIAE := by decide +kernel
theorem hgo55 : ∀ w ∈ Cond.classLink RX6 51 xISE :: Cond.initialized xISE :: vx_atS RX6 55 xISE gNm, vx_ot w = true := by decide +kernel
theorem hgo169 : ∀ w ∈ Cond.classLink RX6 165 xIOB :: Cond.initialized xIOB :: vx_atS RX6 169 xIOB gNm, vx_ot w = true := by decide +kernel
theorem hgo79 : ∀ w ∈ Cond.classLink RX6 75 xIAE :: Cond.initialized xIAE :: vx_atS RX6 79 xIAE gNm, vx_ot w = true := by decide +kernel
abbrev gRF : Type := (Nat → Nat → Int32) × (Nat → Int32)
def cBegR (r : Nat → Nat → Int32) (t : Nat) : Nat → Nat → Int32 := if (t + 1) % 14 = 0 then cWeekR r ((t + 1) / 14) else r
def cSetR (r : Nat → Nat → Int32) (f : Nat → Int32) (x : Int32) : Nat → Nat → Int32 :=
  if cFault r x then (if rAt 4 (r 16) x = -1 then (if f 4 < nI 200 then (if cLatest r x = -1 then cOpenR r f x (f 1) (cLatest r x) else upR (cOpenR r f x (f 1) (cLatest r x)) 18 (rPut 6 (r 18) (rAt 200 (r 5) (cLatest r x)) (rAt 6 (r 18) (rAt 200 (r 5) (cLatest r x)) + nI 1))) else r) else r) else cCloseR r x (f 1)
def cSetF (r : Nat → Nat → Int32) (f : Nat → Int32) (x : Int32) : Nat → Int32 :=
  if cFault r x then (if rAt 4 (r 16) x = -1 then (if f 4 < nI 200 then upF f 4 (f 4 + nI 1) else f) else f) else f
def cCIR (r : Nat → Nat → Int32) (f : Nat → Int32) (a n : Nat) : Nat → Nat → Int32 := if cAnyOpen r 4 then cNoteR (cCallR r (f 1)) a n (cDuty r (f 1)) else r
def cCIF (r : Nat → Nat → Int32) (f : Nat → Int32) : Nat → Int32 := if cAnyOpen r 4 then cCallF r f (f 1) else f
def cTime (f : Nat → Int32) : Nat := (f 1).toNatClampNeg
def cInc (f : Nat → Int32) : Nat := (f 4).toNatClampNeg
def cN (x : Int32) : Nat := x.toNatClampNeg
def cStep (i : Nat) (q : gRF) : gRF := (cSetR q.1 q.2 (nI i), cSetF q.1 q.2 (nI i))
def cBeg (q : gRF) : gRF := (cBegR q.1 (cTime q.2), upF q.2 1 (q.2 1 + nI 1))
def cRings (q : gRF) : gRF := itN 4 cStep (cBeg q)
def cHalf (q : gRF) : gRF := (cCIR (cRings q).1 (cRings q).2 (cInc q.2) (cInc (cRings q).2 - cInc q.2), cCIF (cRings q).1 (cRings q).2)
def cPass (n : Nat) (q : gRF) : gRF := itN n (fun _ => cHalf) q
theorem cGather_W (r : Nat → Nat → Int32) (i : Nat) (x : Int32) : cGather (cPutW r i) x = cGather r x := rfl
theorem cStep_ok {q : gRF} {i a : Nat} (h : q.2 4 = nI a) (ha : a ≤ 200) : (∃ a', (cStep i q).2 4 = nI a' ∧ a ≤ a' ∧ a' ≤ 200) ∧ (cStep i q).2 1 = q.2 1 := by
  show (∃ a', cSetF q.1 q.2 (nI i) 4 = nI a' ∧ a ≤ a' ∧ a' ≤ 200) ∧ cSetF q.1 q.2 (nI i) 1 = q.2 1
  unfold cSetF
  split
  · split
    · split
      · rename_i h3
        rw [h] at h3
        have h4 := (nI_ltI (a := a) (b := 200) (by omega) (by decide)).mp h3
        exact ⟨⟨a + 1, by show q.2 4 + nI 1 = _; rw [h, nI_add], by omega, by omega⟩, rfl⟩
      · exact ⟨⟨a, h, Nat.le_refl _, ha⟩, rfl⟩
    · exact ⟨⟨a, h, Nat.le_refl _, ha⟩, rfl⟩
  · exact ⟨⟨a, h, Nat.le_refl _, ha⟩, rfl⟩
theorem cSteps_ok {q : gRF} {a : Nat} (h : q.2 4 = nI a) (ha : a ≤ 200) (n : Nat) : (∃ a', (itN n cStep q).2 4 = nI a' ∧ a ≤ a' ∧ a' ≤ 200) ∧ (itN n cStep q).2 1 = q.2 1 := by
  induction n with
  | zero => exact ⟨⟨a, h, Nat.le_refl _, ha⟩, rfl⟩
  | succ n ih =>
    obtain ⟨⟨a1, h1, h2, h3⟩, h4⟩ := ih
    obtain ⟨⟨a2, k1, k2, k3⟩, k4⟩ := cStep_ok (i := n) h1 h3
    exact ⟨⟨a2, k1, by omega, k3⟩, k4.trans h4⟩
theorem cCIF_4 (r : Nat → Nat → Int32) (f : Nat → Int32) : cCIF r f 4 = f 4 ∧ cCIF r f 1 = f 1 := by
  unfold cCIF cCallF
  split
  · split <;> exact ⟨rfl, rfl⟩
  · exact ⟨rfl, rfl⟩
theorem cHalf_ok {q : gRF} {t a : Nat} (ht : q.2 1 = nI t) (h : q.2 4 = nI a) (ha : a ≤ 200) : (∃ a', (cHalf q).2 4 = nI a' ∧ a ≤ a' ∧ a' ≤ 200) ∧ (cHalf q).2 1 = nI (t + 1) := by
  obtain ⟨⟨a1, h1, h2, h3⟩, h4⟩ := cSteps_ok (q := cBeg q) (a := a) h ha 4
  have e := cCIF_4 (cRings q).1 (cRings q).2
  have hR : itN 4 cStep (cBeg q) = cRings q := rfl
  have hH : (cHalf q).2 = cCIF (cRings q).1 (cRings q).2 := by simp only [cHalf]
  rw [hR] at h1 h4
  rw [hH, e.1, e.2, h4]
  refine ⟨⟨a1, h1, h2, h3⟩, ?_⟩
  show q.2 1 + nI 1 = _
  rw [ht, nI_add]
theorem cPass_ok {q : gRF} {t a : Nat} (ht : q.2 1 = nI t) (h : q.2 4 = nI a) (ha : a ≤ 200) (n : Nat) : (∃ a', (cPass n q).2 4 = nI a' ∧ a ≤ a' ∧ a' ≤ 200) ∧ (cPass n q).2 1 = nI (t + n) := by
  induction n with
  | zero => exact ⟨⟨a, h, Nat.le_refl _, ha⟩, ht⟩
  | succ n ih =>
    obtain ⟨⟨a1, h1, h2, h3⟩, h4⟩ := ih
    obtain ⟨⟨a2, k1, k2, k3⟩, k4⟩ := cHalf_ok h4 h1 h3
    exact ⟨⟨a2, k1, by omega, k3⟩, k4⟩
def kPerson (x : Int32) : Nat := if x < 0 then 1 else if x < nI 6 then 0 else 1
def kRing (x : Int32) : Nat := if x < 0 then 1 else if x < nI 4 then 0 else 1
def kSwitch (x : Int32) : Nat := if cIsSwitch x then 0 else 1
def kBelow (n x : Int32) : Nat := if x < 0 then 1 else if x < n then 0 else 1
def kCan (r : Nat → Nat → Int32) (f : Nat → Int32) (x : Int32) : Nat := if cRest r x (f 1) then 3 else if f 3 < nI 200 then 0 else 3
def kBuild (f : Nat → Int32) : Nat := if f 0 < nI 20 then 0 else 3
def kDefect (f : Nat → Int32) (x1 x2 : Int32) : Nat := kT (kBelow (f 0) x1) (kT (if x2 = -1 then 0 else kSwitch x2) (if f 2 < nI 24 then 0 else 3))
def kNeed (r : Nat → Nat → Int32) (x1 x2 : Int32) (x3 : Bool) : Nat := kT (kSwitch x1) (kT (kSwitch x2) (if x1 = x2 then 2 else if x3 then (if cHasBit (rAt 8 (r 1) x2) x1 then 3 else 0) else 0))
def kTurn (r : Nat → Nat → Int32) (f : Nat → Int32) (x1 x2 x3 : Int32) : Nat := kT (kPerson x1) (kT (kSwitch x2) (if x3 < 0 then 2 else if x3 ≤ nI 4 then kT (kCan r f x1) (if cValueNow r x2 = x3 then 3 else 0) else 2))
def kRoll (r : Nat → Nat → Int32) (f : Nat → Int32) (x1 x2 x3 : Int32) : Nat := kT (kPerson x1) (kT (kRing x2) (kT (kBelow (f 0) x3) (kT (kCan r f x1) (if cRuns r x2 = x3 then 3 else if cHeld r f x2 x3 (cN x2) then 3 else 0))))
def kRevert (r : Nat → Nat → Int32) (f : Nat → Int32) (x1 x2 : Int32) : Nat := kT (kPerson x1) (kT (kBelow (f 3) x2) (kT (kCan r f x1) (if rAt 12 (r 10) (rAt 200 (r 7) x2) = x2 then 0 else 3)))
def kTake (r : Nat → Nat → Int32) (f : Nat → Int32) (x : Int32) : Nat := kT (kPerson x) (if x = rAt 42 (r 17) (f 1 / nI 14 + nI 1) then 3 else if x = rAt 42 (r 17) (f 1 / nI 14) then 3 else 0)
def kPass (f : Nat → Int32) (x : Int32) : Nat := if x < nI 1 then 2 else if x ≤ nI 28 then (if f 1 + x ≤ nI 560 then 0 else 3) else 2
def kHolder (f : Nat → Int32) (x : Int32) : Nat := if x < 0 then 1 else if x ≤ f 1 / nI 14 + nI 1 then 0 else 1
def cRollable (r : Nat → Nat → Int32) (f : Nat → Int32) (x : Int32) : Int32 :=
  let nx := if x = 0 then f 0 - nI 1 else cRuns r (x - nI 1)
  if cRuns r x = nx then -1 else if cHeld r f x nx (cN x) then -1 else nx
def cNx (r : Nat → Nat → Int32) (f : Nat → Int32) (x : Int32) : Int32 := if x = 0 then f 0 - nI 1 else cRuns r (x - nI 1)
def cChange (r : Nat → Nat → Int32) (x : Int32) : Int32 :=
  if cIsSwitch (rAt 200 (r 7) x) then (nI 10000 * rAt 200 (r 5) x + rAt 200 (r 8) x) + nI 100 * rAt 200 (r 7) x
  else ((nI 10000 * rAt 200 (r 5) x + rAt 200 (r 8) x) + nI 1000) + nI 100 * (rAt 200 (r 7) x - nI 8)
def cHeals (r : Nat → Nat → Int32) (x1 x2 : Int32) : Bool := if cFault r x2 then (if cFW r x1 x2 then false else true) else false
def cTry (r : Nat → Nat → Int32) (n : Nat) (x : Int32) : Int32 := if cFault r x then lastN n (fun j => !cFW r (nI j) x) else -1
theorem nI_cN {x : Int32} (h : ¬ x < 0) : x = nI (cN x) := by
  obtain ⟨j, hj, e⟩ := nI_of h
  rw [e]
  show nI j = nI (nI j).toNatClampNeg
  rw [nI_clamp hj]
theorem kRing_ok {x : Int32} (h : kRing x = 0) : x = nI (cN x) ∧ cN x < 4 := by
  unfold kRing at h
  split at h
  · cases h
  · rename_i h1
    split at h
    · rename_i h2
      have e := nI_cN h1
      refine ⟨e, ?_⟩
      rw [e] at h2
      have h3 : cN x < 2 ^ 31 := by
        obtain ⟨j, hj, e2⟩ := nI_of h1
        show x.toNatClampNeg < _
        rw [e2, nI_clamp hj]; exact hj
      exact (nI_ltI h3 (by decide)).mp h2
    · cases h
theorem g_hp {D : va_G} {cl : List vw_C} {ws : va_W} {t : State} {H : Heap} (ht : t.heap = H) (h : va_P D cl ws H) : va_P D cl ws t.heap := by rw [ht]; exact h
theorem gPr_0 {D : va_G} {cl : List vw_C} {G : gG} {z : Nat → Nat} {r : Nat → Nat → Int32} {f g : Nat → Int32} {H : Heap} (h : va_P D cl ((wRF G z r f).set 28 (z 28, .inl (gI G, 8, .inl g))) H) : va_P D cl (wRF G z (upR r 0 g) f) H := h
theorem gPr_1 {D : va_G} {cl : List vw_C} {G : gG} {z : Nat → Nat} {r : Nat → Nat → Int32} {f g : Nat → Int32} {H : Heap} (h : va_P D cl ((wRF G z r f).set 29 (z 29, .inl (gI G, 8, .inl g))) H) : va_P D cl (wRF G z (upR r 1 g) f) H := h
theorem gPr_2 {D : va_G} {cl : List vw_C} {G : gG} {z : Nat → Nat} {r : Nat → Nat → Int32} {f g : Nat → Int32} {H : Heap} (h : va_P D cl ((wRF G z r f).set 30 (z 30, .inl (gI G, 20, .inl g))) H) : va_P D cl (wRF G z (upR r 2 g) f) H := h
theorem gPr_3 {D : va_G} {cl : List vw_C} {G : gG} {z : Nat → Nat} {r : Nat → Nat → Int32} {f g : Nat → Int32} {H : Heap} (h : va_P D cl ((wRF G z r f).set 31 (z 31, .inl (gI G, 20, .inl g))) H) : va_P D cl (wRF G z (upR r 3 g) f) H := h
theorem gPr_4 {D : va_G} {cl : List vw_C} {G : gG} {z : Nat → Nat} {r : Nat → Nat → Int32} {f g : Nat → Int32} {H : Heap} (h : va_P D cl ((wRF G z r f).set 32 (z 32, .inl (gI G, 20, .inl g))) H) : va_P D cl (wRF G z (upR r 4 g) f) H := h
theorem gPr_5 {D : va_G} {cl : List vw_C} {G : gG} {z : Nat → Nat} {r : Nat → Nat → Int32} {f g : Nat → Int32} {H : Heap} (h : va_P D cl ((wRF G z r f).set 33 (z 33, .inl (gI G, 200, .inl g))) H) : va_P D cl (wRF G z (upR r 5 g) f) H := h
theorem gPr_6 {D : va_G} {cl : List vw_C} {G : gG} {z : Nat → Nat} {r : Nat → Nat → Int32} {f g : Nat → Int32} {H : Heap} (h : va_P D cl ((wRF G z r f).set 34 (z 34, .inl (gI G, 200, .inl g))) H) : va_P D cl (wRF G z (upR r 6 g) f) H := h
theorem gPr_7 {D : va_G} {cl : List vw_C} {G : gG} {z : Nat → Nat} {r : Nat → Nat → Int32} {f g : Nat → Int32} {H : Heap} (h : va_P D cl ((wRF G z r f).set 35 (z 35, .inl (gI G, 200, .inl g))) H) : va_P D cl (wRF G z (upR r 7 g) f) H := h
theorem gPr_8 {D : va_G} {cl : List vw_C} {G : gG} {z : Nat → Nat} {r : Nat → Nat → Int32} {f g : Nat → Int32} {H : Heap} (h : va_P D cl ((wRF G z r f).set 36 (z 36, .inl (gI G, 200, .inl g))) H) : va_P D cl (wRF G z (upR r 8 g) f) H := h
theorem gPr_9 {D : va_G} {cl : List vw_C} {G : gG} {z : Nat → Nat} {r : Nat → Nat → Int32} {f g : Nat → Int32} {H : Heap} (h : va_P D cl ((wRF G z r f).set 37 (z 37, .inl (gI G, 200, .inl g))) H) : va_P D cl (wRF G z (upR r 9 g) f) H := h
theorem gPr_10 {D : va_G} {cl : List vw_C} {G : gG} {z : Nat → Nat} {r : Nat → Nat → Int32} {f g : Nat → Int32} {H : Heap} (h : va_P D cl ((wRF G z r f).set 38 (z 38, .inl (gI G, 12, .inl g))) H) : va_P D cl (wRF G z (upR r 10 g) f) H := h
theorem gPr_11 {D : va_G} {cl : List vw_C} {G : gG} {z : Nat → Nat} {r : Nat → Nat → Int32} {f g : Nat → Int32} {H : Heap} (h : va_P D cl ((wRF G z r f).set 39 (z 39, .inl (gI G, 200, .inl g))) H) : va_P D cl (wRF G z (upR r 11 g) f) H := h
theorem gPr_12 {D : va_G} {cl : List vw_C} {G : gG} {z : Nat → Nat} {r : Nat → Nat → Int32} {f g : Nat → Int32} {H : Heap} (h : va_P D cl ((wRF G z r f).set 40 (z 40, .inl (gI G, 200, .inl g))) H) : va_P D cl (wRF G z (upR r 12 g) f) H := h
theorem gPr_13 {D : va_G} {cl : List vw_C} {G : gG} {z : Nat → Nat} {r : Nat → Nat → Int32} {f g : Nat → Int32} {H : Heap} (h : va_P D cl ((wRF G z r f).set 41 (z 41, .inl (gI G, 200, .inl g))) H) : va_P D cl (wRF G z (upR r 13 g) f) H := h
theorem gPr_14 {D : va_G} {cl : List vw_C} {G : gG} {z : Nat → Nat} {r : Nat → Nat → Int32} {f g : Nat → Int32} {H : Heap} (h : va_P D cl ((wRF G z r f).set 42 (z 42, .inl (gI G, 200, .inl g))) H) : va_P D cl (wRF G z (upR r 14 g) f) H := h
theorem gPr_15 {D : va_G} {cl : List vw_C} {G : gG} {z : Nat → Nat} {r : Nat → Nat → Int32} {f g : Nat → Int32} {H : Heap} (h : va_P D cl ((wRF G z r f).set 43 (z 43, .inl (gI G, 200, .inl g))) H) : va_P D cl (wRF G z (upR r 15 g) f) H := h
theorem gPr_16 {D : va_G} {cl : List vw_C} {G : gG} {z : Nat → Nat} {r : Nat → Nat → Int32} {f g : Nat → Int32} {H : Heap} (h : va_P D cl ((wRF G z r f).set 44 (z 44, .inl (gI G, 4, .inl g))) H) : va_P D cl (wRF G z (upR r 16 g) f) H := h
theorem gPr_17 {D : va_G} {cl : List vw_C} {G : gG} {z : Nat → Nat} {r : Nat → Nat → Int32} {f g : Nat → Int32} {H : Heap} (h : va_P D cl ((wRF G z r f).set 45 (z 45, .inl (gI G, 42, .inl g))) H) : va_P D cl (wRF G z (upR r 17 g) f) H := h
theorem gPr_18 {D : va_G} {cl : List vw_C} {G : gG} {z : Nat → Nat} {r : Nat → Nat → Int32} {f g : Nat → Int32} {H : Heap} (h : va_P D cl ((wRF G z r f).set 46 (z 46, .inl (gI G, 6, .inl g))) H) : va_P D cl (wRF G z (upR r 18 g) f) H := h
theorem gPr_19 {D : va_G} {cl : List vw_C} {G : gG} {z : Nat → Nat} {r : Nat → Nat → Int32} {f g : Nat → Int32} {H : Heap} (h : va_P D cl ((wRF G z r f).set 47 (z 47, .inl (gI G, 6, .inl g))) H) : va_P D cl (wRF G z (upR r 19 g) f) H := h
theorem gPr_20 {D : va_G} {cl : List vw_C} {G : gG} {z : Nat → Nat} {r : Nat → Nat → Int32} {f g : Nat → Int32} {H : Heap} (h : va_P D cl ((wRF G z r f).set 48 (z 48, .inl (gI G, 6, .inl g))) H) : va_P D cl (wRF G z (upR r 20 g) f) H := h
theorem gPr_21 {D : va_G} {cl : List vw_C} {G : gG} {z : Nat → Nat} {r : Nat → Nat → Int32} {f g : Nat → Int32} {H : Heap} (h : va_P D cl ((wRF G z r f).set 49 (z 49, .inl (gI G, 6, .inl g))) H) : va_P D cl (wRF G z (upR r 21 g) f) H := h
theorem gPs_0 {D : va_G} {cl : List vw_C} {G : gG} {z : Nat → Nat} {r : Nat → Nat → Int32} {f : Nat → Int32} {v : Int32} {H : Heap} (h : va_P D cl ((wRF G z r f).set 0 (z 0, .inr (6, ([.ref (z 1), .ref (z 2), .ref (z 3), .ref (z 4), .ref (z 5), .int (f 0), .int (f 1)] : List Value).set 5 (.int v)))) H) : va_P D cl (wRF G z r (upF f 0 v)) H := h
theorem gPs_1 {D : va_G} {cl : List vw_C} {G : gG} {z : Nat → Nat} {r : Nat → Nat → Int32} {f : Nat → Int32} {v : Int32} {H : Heap} (h : va_P D cl ((wRF G z r f).set 0 (z 0, .inr (6, ([.ref (z 1), .ref (z 2), .ref (z 3), .ref (z 4), .ref (z 5), .int (f 0), .int (f 1)] : List Value).set 6 (.int v)))) H) : va_P D cl (wRF G z r (upF f 1 v)) H := h
theorem gPs_2 {D : va_G} {cl : List vw_C} {G : gG} {z : Nat → Nat} {r : Nat → Nat → Int32} {f : Nat → Int32} {v : Int32} {H : Heap} (h : va_P D cl ((wRF G z r f).set 2 (z 2, .inr (1, ([.ref (z 8), .ref (z 9), .ref (z 10), .int (f 2)] : List Value).set 3 (.int v)))) H) : va_P D cl (wRF G z r (upF f 2 v)) H := h
theorem gPs_3 {D : va_G} {cl : List vw_C} {G : gG} {z : Nat → Nat} {r : Nat → Nat → Int32} {f : Nat → Int32} {v : Int32} {H : Heap} (h : va_P D cl ((wRF G z r f).set 3 (z 3, .inr (0, ([.ref (z 11), .ref (z 12), .ref (z 13), .ref (z 14), .ref (z 15), .ref (z 16), .int (f 3)] : List Value).set 6 (.int v)))) H) : va_P D cl (wRF G z r (upF f 3 v)) H := h
theorem gPs_4 {D : va_G} {cl : List vw_C} {G : gG} {z : Nat → Nat} {r : Nat → Nat → Int32} {f : Nat → Int32} {v : Int32} {H : Heap} (h : va_P D cl ((wRF G z r f).set 4 (z 4, .inr (2, ([.ref (z 17), .ref (z 18), .ref (z 19), .ref (z 20), .ref (z 21), .ref (z 22), .int (f 4)] : List Value).set 6 (.int v)))) H) : va_P D cl (wRF G z r (upF f 4 v)) H := h
theorem gPs_5 {D : va_G} {cl : List vw_C} {G : gG} {z : Nat → Nat} {r : Nat → Nat → Int32} {f : Nat → Int32} {v : Int32} {H : Heap} (h : va_P D cl ((wRF G z r f).set 5 (z 5, .inr (4, ([.ref (z 23), .ref (z 24), .ref (z 25), .ref (z 26), .ref (z 27), .int (f 5)] : List Value).set 5 (.int v)))) H) : va_P D cl (wRF G z r (upF f 5 v)) H := h
